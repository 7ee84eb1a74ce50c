/** The boundary cases of promises 1 to 8: each sentence that names one has a test of its own. */
public final class EditionEdgesTest extends ArchiveCalls {
    public static void main(String[] args) {
        begin("EditionEdgesTest");
        aNewObjectHasNothing();
        editions();
        copies();
        types();
        interfaces();
        members();
        drops();
        seals();
        finish();
    }

    // ---- promise 1: no EDITIONS, no CALLERS ----

    private static void aNewObjectHasNothing() {
        LinkArchive x = new LinkArchive();
        refused("1: copy", INDEX, () -> x.copy(0));
        refused("1: type", INDEX, () -> x.type(0, 0, false, false, 0, true, NONE));
        refused("1: implement", INDEX, () -> x.implement(0, 0, 1));
        refused("1: member", INDEX, () -> x.member(0, 0, FIELD, 0, 0, PUBLIC, false, 0));
        refused("1: drop", INDEX, () -> bit(x.drop(0, 0, WHOLE_TYPE, 0, 0)));
        refused("1: seal", INDEX, () -> x.seal(0));
        refused("1: above", INDEX, () -> bit(x.above(0, 0, 0)));
        refused("1: find", INDEX, () -> x.find(0, 0, true, 0, 0));
        refused("1: select", INDEX, () -> x.select(0, 0, 0, 0, 0));
        refused("1: caller", INDEX, () -> x.caller(0, 0, NONE));
        refused("1: use", INDEX, () -> x.use(0, 5, 0, 0, 0, 0));
        refused("1: foretell", INDEX, () -> x.foretell(0, 0, 0));
        refused("1: runs", INDEX, () -> x.runs(0, 0, 0));
        refused("1: copied", INDEX, () -> x.copied(0, 0));
        refused("1: meets", INDEX, () -> x.meets(0, 0, 0));
        refused("1: best", INDEX, () -> x.best(0, true));
        refused("1: differ", INDEX, () -> x.differ(0, 0));
        refused("1: difference", INDEX, () -> x.difference(0, 0, 0, 0));
        refused("1: compatible", INDEX, () -> bit(x.compatible(0, 0)));
        refused("1: look", INDEX, () -> x.look(0, 0));
        refused("1: uses", INDEX, () -> x.uses(0));
        due("1: no editions", 0, () -> x.count(0));
        due("1: no callers", 0, () -> x.count(1));
        due("1: the first edition is 0 all the same", 0, x::edition);
        due("1: another object has nothing of it", 0, () -> new LinkArchive().count(0));
    }

    // ---- promise 2 ----

    private static void editions() {
        editionsAreNumberedFrom0AndAtMost8();
        sealedEditionsAndCopiesCountToo();
    }

    private static void editionsAreNumberedFrom0AndAtMost8() {
        LinkArchive x = new LinkArchive();
        for (int i = 0; i < 8; i++) {
            int e = i;
            due("2: the number", i, x::edition);
            due("2: OPEN", 0, () -> x.look(e, 0));
            due("2: without TYPES", 0, () -> x.look(e, 1));
            due("2: without MEMBERS", 0, () -> x.look(e, 2));
        }
        for (int again = 0; again < 3; again++) {
            refused("2: there are 8", FULL, x::edition);
            due("2: and stay 8", 8, () -> x.count(0));
        }
        due("2: the eighth can be used", 1, () -> x.type(7, 0, false, false, 0, true, NONE));
        due("2: the first too", 1, () -> x.type(0, 0, false, false, 0, true, NONE));
        refused("2: there is no ninth", INDEX, () -> x.look(8, 0));
    }

    private static void sealedEditionsAndCopiesCountToo() {
        LinkArchive x = withEdition();
        sealed(x, 0);
        for (int i = 1; i < 8; i++) {
            due("2: a copy has the next number", i, () -> x.copy(0));
            sealed(x, i);
        }
        refused("2: eight sealed ones are eight", FULL, x::edition);
        due("2: all are sealed still", 1, () -> x.look(7, 0));
    }

    // ---- promise 3 ----

    private static void copies() {
        onlyASealedEditionThatIsThereIsCopied();
        theCopyOfAnEmptyEdition();
        theCopyOfAFullEdition();
        aCopyKeepsTheOrder();
        thereAre8ThenNoCopy();
    }

    private static void onlyASealedEditionThatIsThereIsCopied() {
        LinkArchive x = withEdition();
        for (int wrong : outside(0, 0)) {
            refused("3: no edition " + wrong, INDEX, () -> x.copy(wrong));
        }
        refused("3: an OPEN one", STATE, () -> x.copy(0));
        due("3: no edition came", 1, () -> x.count(0));
        sealed(x, 0);
        due("3: a sealed one", 1, () -> x.copy(0));
        refused("3: its copy is OPEN", STATE, () -> x.copy(1));
        refused("3: one behind the last", INDEX, () -> x.copy(2));
    }

    private static void theCopyOfAnEmptyEdition() {
        LinkArchive x = withEdition();
        sealed(x, 0);
        x.copy(0);
        due("3: an empty one's copy is OPEN", 0, () -> x.look(1, 0));
        due("3: and empty", 0, () -> x.look(1, 1));
        due("3: a type can come to it", 1, () -> x.type(1, 0, false, false, 0, true, NONE));
        due("3: and comes not to the first", 0, () -> x.look(0, 1));
    }

    private static void theCopyOfAFullEdition() {
        LinkArchive x = withEdition();
        fill(x, 0);
        sealed(x, 0);
        x.copy(0);
        due("3: ten types", 10, () -> x.look(1, 1));
        due("3: sixty members", 60, () -> x.look(1, 2));
        refused("3: an eleventh type", FULL, () -> x.type(1, 15, false, false, 0, true, NONE));
        refused("3: a seventh member", FULL, () -> x.member(1, 9, METHOD, 15, 0, PUBLIC, false, 1));
        refused("3: a fourth interface", FULL, () -> x.implement(1, 9, 0));
        sealed(x, 1);
        due("3: it has all", 0, () -> x.differ(0, 1));
        x.copy(1);
        yes("3: its copy can lose a type", () -> x.drop(2, 9, WHOLE_TYPE, 0, 0));
        yes("3: and a member", () -> x.drop(2, 0, FIELD, 0, 0));
        due("3: these are there still in what was copied", 60, () -> x.look(1, 2));
        due("3: and gone in the copy", 53, () -> x.look(2, 2));
    }

    private static void aCopyKeepsTheOrder() {
        LinkArchive x = withEdition();
        plain(x, 0, 0, NONE);
        face(x, 0, 9);
        face(x, 0, 3);
        x.implement(0, 0, 3);
        x.implement(0, 0, 9);
        for (int name : new int[] {9, 3}) {
            method(x, 0, name, 0, PUBLIC, ABSTRACT);
            x.member(0, name, FIELD, 0, 0, PUBLIC, true, 1);
        }
        sealed(x, 0);
        x.copy(0);
        sealed(x, 1);
        due("3: the order of types", 9, () -> x.find(1, 0, true, 0, 0));
        due("3: the order of interfaces", 3, () -> x.find(1, 0, false, 0, 0));
    }

    private static void thereAre8ThenNoCopy() {
        LinkArchive x = withEdition();
        sealed(x, 0);
        for (int i = 1; i < 8; i++) {
            x.edition();
        }
        refused("3: there are 8", FULL, () -> x.copy(0));
        refused("3: OPEN is told ahead", STATE, () -> x.copy(7));
        refused("3: no such edition ahead of both", INDEX, () -> x.copy(8));
        due("3: still 8", 8, () -> x.count(0));
        due("3: nothing came to the last", 0, () -> x.look(7, 1));
    }

    // ---- promise 4 ----

    private static void types() {
        typesComeToOpenEditionsAlone();
        namesOfTypesAre0To15();
        packagesAre0To3();
        aSuperIsANameOrNone();
        anInterfaceHasNoSuper();
        isAbstractCountsForNothingOfAnInterface();
        noTwoTypesOfOneName();
        thereAre10Types();
    }

    private static void typesComeToOpenEditionsAlone() {
        LinkArchive x = withEdition();
        for (int wrong : outside(0, 0)) {
            refused("4: no edition " + wrong, INDEX, () -> x.type(wrong, 0, false, false, 0, true, NONE));
        }
        sealed(x, 0);
        refused("4: a sealed one", STATE, () -> x.type(0, 0, false, false, 0, true, NONE));
        due("4: none came", 0, () -> x.look(0, 1));
        x.edition();
        due("4: an OPEN one beside it", 1, () -> x.type(1, 0, false, false, 0, true, NONE));
    }

    private static void namesOfTypesAre0To15() {
        LinkArchive x = withEdition();
        for (int wrong : outside(0, 15)) {
            refused("4: class " + wrong, ARGUMENT, () -> x.type(0, wrong, false, false, 0, true, NONE));
            refused("4: interface " + wrong, ARGUMENT, () -> x.type(0, wrong, true, false, 0, true, NONE));
        }
        due("4: none came", 0, () -> x.look(0, 1));
        due("4: name 0", 1, () -> x.type(0, 0, false, false, 0, true, NONE));
        due("4: name 15", 2, () -> x.type(0, 15, true, false, 0, true, NONE));
        due("4: name 14", 3, () -> x.type(0, 14, false, false, 0, true, NONE));
    }

    private static void packagesAre0To3() {
        LinkArchive x = withEdition();
        for (int wrong : outside(0, 3)) {
            refused("4: package " + wrong, ARGUMENT, () -> x.type(0, 0, false, false, wrong, true, NONE));
            refused("4: of an interface " + wrong, ARGUMENT, () -> x.type(0, 0, true, false, wrong, true, NONE));
        }
        due("4: none came", 0, () -> x.look(0, 1));
        for (int i = 0; i < 4; i++) {
            int pack = i;
            due("4: package " + i, i + 1, () -> x.type(0, pack, pack == 2, false, pack, false, NONE));
        }
    }

    private static void aSuperIsANameOrNone() {
        LinkArchive x = withEdition();
        for (int wrong : outside(NONE, 15)) {
            refused("4: super " + wrong, ARGUMENT, () -> x.type(0, 0, false, false, 0, true, wrong));
        }
        due("4: none came", 0, () -> x.look(0, 1));
        due("4: no super", 1, () -> x.type(0, 4, false, false, 0, true, NONE));
        due("4: super 0, which is not there yet", 2, () -> x.type(0, 5, false, false, 0, true, 0));
        due("4: super 15", 3, () -> x.type(0, 6, false, false, 0, true, 15));
        due("4: itself, till it is sealed", 4, () -> x.type(0, 7, false, false, 0, true, 7));
    }

    private static void anInterfaceHasNoSuper() {
        LinkArchive x = withEdition();
        plain(x, 0, 1, NONE);
        for (int name : new int[] {0, 1, 2, 15}) {
            refused("4: super " + name, ARGUMENT, () -> x.type(0, 2, true, false, 0, true, name));
            refused("4: of an abstract one " + name, ARGUMENT, () -> x.type(0, 2, true, true, 0, true, name));
        }
        for (int wrong : outside(NONE, 15)) {
            refused("4: of an interface super " + wrong, ARGUMENT, () -> x.type(0, 2, true, false, 0, true, wrong));
        }
        due("4: NONE", 2, () -> x.type(0, 2, true, false, 0, true, NONE));
    }

    private static void isAbstractCountsForNothingOfAnInterface() {
        LinkArchive x = withEdition();
        x.type(0, 0, true, false, 0, true, NONE);
        x.type(0, 1, false, true, 0, true, NONE);
        x.type(0, 2, false, false, 0, true, NONE);
        sealed(x, 0);
        x.edition();
        x.type(1, 0, true, true, 0, true, NONE);
        x.type(1, 1, false, false, 0, true, NONE);
        x.type(1, 2, false, false, 0, true, NONE);
        sealed(x, 1);
        differences("4: an INTERFACE is ABSTRACT always, a CLASS as it is told", x, 0, 1, typeRow(4, 1));
        x.caller(0, 0, NONE);
        due("4: no new object of the one", NONE, () -> x.use(0, 5, 0, 0, 0, 0));
        due("4: nor of an abstract class", NONE, () -> x.use(0, 5, 1, 0, 0, 0));
        due("4: but of one that is not", 0, () -> x.use(0, 5, 2, 0, 0, 0));
    }

    private static void noTwoTypesOfOneName() {
        LinkArchive x = withEdition();
        x.edition();
        for (int name : new int[] {0, 15}) {
            int many = name == 0 ? 1 : 2;
            due("4: the first " + name, many, () -> x.type(0, name, false, false, 0, true, NONE));
            refused("4: the same again " + name, ARGUMENT, () -> x.type(0, name, false, false, 0, true, NONE));
            refused("4: as an interface " + name, ARGUMENT, () -> x.type(0, name, true, false, 1, false, NONE));
            due("4: in another edition " + name, many, () -> x.type(1, name, true, false, 0, true, NONE));
        }
        x.drop(0, 0, WHOLE_TYPE, 0, 0);
        due("4: once it is gone", 2, () -> x.type(0, 0, true, false, 0, true, NONE));
        refused("4: and once only", ARGUMENT, () -> x.type(0, 0, false, false, 0, true, NONE));
    }

    private static void thereAre10Types() {
        LinkArchive x = withEdition();
        x.edition();
        for (int i = 0; i < 10; i++) {
            int name = 15 - i;
            due("4: how many", i + 1, () -> x.type(0, name, name % 2 == 0, false, 0, true, NONE));
        }
        refused("4: an eleventh", FULL, () -> x.type(0, 0, false, false, 0, true, NONE));
        refused("4: an eleventh interface", FULL, () -> x.type(0, 5, true, false, 0, true, NONE));
        refused("4: one of a name that is there", ARGUMENT, () -> x.type(0, 15, false, false, 0, true, NONE));
        refused("4: of no name", ARGUMENT, () -> x.type(0, 16, false, false, 0, true, NONE));
        refused("4: of no package", ARGUMENT, () -> x.type(0, 0, false, false, 4, true, NONE));
        refused("4: with a super that is no name", ARGUMENT, () -> x.type(0, 0, false, false, 0, true, 16));
        refused("4: an interface with a super", ARGUMENT, () -> x.type(0, 0, true, false, 0, true, 1));
        due("4: ten there are", 10, () -> x.look(0, 1));
        due("4: the other edition has its own ten", 1, () -> x.type(1, 0, false, false, 0, true, NONE));
        x.drop(0, 9, WHOLE_TYPE, 0, 0);
        due("4: when one goes", 10, () -> x.type(0, 0, false, false, 0, true, NONE));
        refused("4: one may come", FULL, () -> x.type(0, 9, false, false, 0, true, NONE));
    }

    // ---- promise 5 ----

    private static void interfaces() {
        interfacesComeToTypesOfOpenEditions();
        anInterfaceIsAName();
        noTwoInterfacesAreTheSame();
        thereAre3Interfaces();
    }

    private static void interfacesComeToTypesOfOpenEditions() {
        LinkArchive x = withEdition();
        plain(x, 0, 0, NONE);
        for (int wrong : outside(0, 0)) {
            refused("5: no edition " + wrong, INDEX, () -> x.implement(wrong, 0, 1));
        }
        for (int wrong : outside(0, 15)) {
            refused("5: no type " + wrong, ARGUMENT, () -> x.implement(0, wrong, 1));
        }
        for (int i = 1; i < 16; i++) {
            int name = i;
            refused("5: none of the name " + i, ARGUMENT, () -> x.implement(0, name, 1));
        }
        x.drop(0, 0, WHOLE_TYPE, 0, 0);
        refused("5: one that is gone", ARGUMENT, () -> x.implement(0, 0, 1));
        sealed(x, 0);
        refused("5: a sealed edition", STATE, () -> x.implement(0, 0, 1));
    }

    private static void anInterfaceIsAName() {
        LinkArchive x = withEdition();
        plain(x, 0, 5, 3);
        for (int wrong : outside(0, 15)) {
            refused("5: no name " + wrong, ARGUMENT, () -> x.implement(0, 5, wrong));
        }
        due("5: name 0, which is not there yet", 1, () -> x.implement(0, 5, 0));
        due("5: name 15", 2, () -> x.implement(0, 5, 15));
        due("5: the name of its super", 3, () -> x.implement(0, 5, 3));
        face(x, 0, 6);
        due("5: of an interface: its own name", 1, () -> x.implement(0, 6, 6));
        due("5: of an interface: another", 2, () -> x.implement(0, 6, 5));
    }

    private static void noTwoInterfacesAreTheSame() {
        LinkArchive x = withEdition();
        plain(x, 0, 5, NONE);
        plain(x, 0, 6, NONE);
        int[] names = {0, 15, 7};
        for (int i = 0; i < 3; i++) {
            int many = i + 1;
            due("5: interface " + names[i], many, () -> x.implement(0, 5, names[many - 1]));
            for (int k = 0; k <= i; k++) {
                int name = names[k];
                refused("5: it has " + name + " already", ARGUMENT, () -> x.implement(0, 5, name));
            }
        }
        due("5: another type has it not", 1, () -> x.implement(0, 6, 7));
    }

    private static void thereAre3Interfaces() {
        LinkArchive x = withEdition();
        plain(x, 0, 5, NONE);
        face(x, 0, 6);
        for (int type : new int[] {5, 6}) {
            for (int i = 0; i < 3; i++) {
                int name = 10 + i;
                due("5: how many of " + type, i + 1, () -> x.implement(0, type, name));
            }
            refused("5: a fourth of " + type, FULL, () -> x.implement(0, type, 13));
            refused("5: one that it has", ARGUMENT, () -> x.implement(0, type, 12));
            refused("5: one that is no name", ARGUMENT, () -> x.implement(0, type, 16));
            refused("5: a fourth again", FULL, () -> x.implement(0, type, 0));
        }
        x.drop(0, 5, WHOLE_TYPE, 0, 0);
        plain(x, 0, 5, NONE);
        due("5: a type that comes anew has none", 1, () -> x.implement(0, 5, 12));
        for (int i = 0; i < 3; i++) {
            face(x, 0, 10 + i);
        }
        sealed(x, 0);
        x.edition();
        plain(x, 1, 5, NONE);
        x.implement(1, 5, 12);
        face(x, 1, 6);
        for (int i = 2; i >= 0; i--) {
            face(x, 1, 10 + i);
            x.implement(1, 6, 10 + i);
        }
        sealed(x, 1);
        due("5: what was refused did not come", 0, () -> x.differ(0, 1));
    }

    // ---- promise 6 ----

    private static void members() {
        membersComeToTypesOfOpenEditions();
        whatIs0To2();
        namesAndSortsOfMembers();
        accessIs0To3();
        bodiesAre0To9();
        anAbstractMethod();
        aConstantIsStatic();
        inAnInterfaceAllArePublic();
        noTwoFieldsNoTwoMethods();
        thereAre6Members();
    }

    private static LinkArchive withType() {
        LinkArchive x = withEdition();
        plain(x, 0, 1, NONE);
        return x;
    }

    private static void membersComeToTypesOfOpenEditions() {
        LinkArchive x = withType();
        for (int wrong : outside(0, 0)) {
            refused("6: no edition " + wrong, INDEX, () -> x.member(wrong, 1, FIELD, 0, 0, PUBLIC, false, 0));
        }
        for (int wrong : outside(0, 15)) {
            refused("6: no type " + wrong, ARGUMENT, () -> x.member(0, wrong, FIELD, 0, 0, PUBLIC, false, 0));
        }
        for (int i = 2; i < 16; i++) {
            int name = i;
            refused("6: none of the name " + i, ARGUMENT, () -> x.member(0, name, METHOD, 0, 0, PUBLIC, false, 0));
        }
        refused("6: none of the name 0", ARGUMENT, () -> x.member(0, 0, METHOD, 0, 0, PUBLIC, false, 0));
        sealed(x, 0);
        refused("6: a sealed edition", STATE, () -> x.member(0, 1, FIELD, 0, 0, PUBLIC, false, 0));
        due("6: none came", 0, () -> x.look(0, 2));
    }

    private static void whatIs0To2() {
        LinkArchive x = withType();
        for (int wrong : outside(0, 2)) {
            refused("6: what " + wrong, ARGUMENT, () -> x.member(0, 1, wrong, 0, 0, PUBLIC, true, 0));
            refused("6: of an object " + wrong, ARGUMENT, () -> x.member(0, 1, wrong, 0, 0, PUBLIC, false, 0));
        }
        due("6: what 0", 1, () -> x.member(0, 1, 0, 0, 0, PUBLIC, true, 0));
        due("6: what 1", 2, () -> x.member(0, 1, 1, 0, 0, PUBLIC, true, 0));
        due("6: what 2", 3, () -> x.member(0, 1, 2, 1, 0, PUBLIC, true, 0));
    }

    private static void namesAndSortsOfMembers() {
        LinkArchive x = withType();
        for (int wrong : outside(0, 15)) {
            refused("6: a field " + wrong, ARGUMENT, () -> x.member(0, 1, FIELD, wrong, 0, PUBLIC, false, 0));
            refused("6: a method " + wrong, ARGUMENT, () -> x.member(0, 1, METHOD, wrong, 0, PUBLIC, false, 0));
            refused("6: a constant " + wrong, ARGUMENT, () -> x.member(0, 1, CONSTANT, wrong, 0, PUBLIC, true, 0));
        }
        for (int wrong : outside(0, 3)) {
            refused("6: a field's sort " + wrong, ARGUMENT, () -> x.member(0, 1, FIELD, 7, wrong, PUBLIC, false, 0));
            refused("6: a method's " + wrong, ARGUMENT, () -> x.member(0, 1, METHOD, 7, wrong, PUBLIC, false, 0));
            refused("6: a constant's " + wrong, ARGUMENT, () -> x.member(0, 1, CONSTANT, 7, wrong, PUBLIC, true, 0));
        }
        due("6: none came", 0, () -> x.look(0, 2));
        int many = 0;
        for (int name : new int[] {0, 15}) {
            for (int sort : new int[] {0, 1, 3}) {
                many++;
                due("6: name " + name + ", sort " + sort, many,
                        () -> x.member(0, 1, METHOD, name, sort, PUBLIC, false, 0));
            }
        }
    }

    private static void accessIs0To3() {
        LinkArchive x = withType();
        for (int wrong : outside(0, 3)) {
            refused("6: a field's access " + wrong, ARGUMENT, () -> x.member(0, 1, FIELD, 0, 0, wrong, false, 0));
            refused("6: a method's " + wrong, ARGUMENT, () -> x.member(0, 1, METHOD, 0, 0, wrong, false, ABSTRACT));
            refused("6: a constant's " + wrong, ARGUMENT, () -> x.member(0, 1, CONSTANT, 0, 0, wrong, true, 0));
        }
        for (int i = 0; i < 4; i++) {
            int access = i;
            due("6: access " + i, i + 1, () -> x.member(0, 1, FIELD, access, 0, access, false, 0));
        }
    }

    private static void bodiesAre0To9() {
        LinkArchive x = withType();
        for (int wrong : outside(0, 9)) {
            refused("6: a field's body " + wrong, ARGUMENT, () -> x.member(0, 1, FIELD, 0, 0, PUBLIC, false, wrong));
            refused("6: a static one's " + wrong, ARGUMENT, () -> x.member(0, 1, FIELD, 0, 0, PUBLIC, true, wrong));
            refused("6: a constant's " + wrong, ARGUMENT, () -> x.member(0, 1, CONSTANT, 0, 0, PUBLIC, true, wrong));
        }
        for (int wrong : outside(ABSTRACT, 9)) {
            refused("6: a method's body " + wrong, ARGUMENT, () -> x.member(0, 1, METHOD, 0, 0, PUBLIC, false, wrong));
        }
        due("6: none came", 0, () -> x.look(0, 2));
        int many = 0;
        for (int what = 0; what < 3; what++) {
            for (int body : new int[] {0, 9}) {
                int kind = what;
                many++;
                due("6: body " + body + " of what " + what, many,
                        () -> x.member(0, 1, kind, kind * 2 + body / 9, 0, PUBLIC, true, body));
            }
        }
    }

    private static void anAbstractMethod() {
        LinkArchive x = withType();
        refused("6: is not STATIC", ARGUMENT, () -> x.member(0, 1, METHOD, 0, 0, PUBLIC, true, ABSTRACT));
        refused("6: is not private", ARGUMENT, () -> x.member(0, 1, METHOD, 0, 0, PRIVATE, false, ABSTRACT));
        refused("6: nor both", ARGUMENT, () -> x.member(0, 1, METHOD, 0, 0, PRIVATE, true, ABSTRACT));
        for (int i = PACKAGE; i <= PUBLIC; i++) {
            int access = i;
            due("6: has access " + i + ", in a class that is not abstract too", i,
                    () -> x.member(0, 1, METHOD, access, 0, access, false, ABSTRACT));
        }
        due("6: one with a body may be private", 4, () -> x.member(0, 1, METHOD, 5, 0, PRIVATE, false, 0));
        due("6: and private and static", 5, () -> x.member(0, 1, METHOD, 6, 0, PRIVATE, true, 0));
    }

    private static void aConstantIsStatic() {
        LinkArchive x = withType();
        for (int i = PRIVATE; i <= PUBLIC; i++) {
            int access = i;
            refused("6: one of an object", ARGUMENT, () -> x.member(0, 1, CONSTANT, access, 0, access, false, 0));
            due("6: a static one", i + 1, () -> x.member(0, 1, CONSTANT, access, 0, access, true, 0));
        }
    }

    private static void inAnInterfaceAllArePublic() {
        LinkArchive x = withEdition();
        face(x, 0, 1);
        for (int i = PRIVATE; i < PUBLIC; i++) {
            int access = i;
            refused("6: a method of access " + i, ARGUMENT, () -> x.member(0, 1, METHOD, 0, 0, access, false, 0));
            refused("6: an abstract one", ARGUMENT, () -> x.member(0, 1, METHOD, 0, 0, access, false, ABSTRACT));
            refused("6: a static one", ARGUMENT, () -> x.member(0, 1, METHOD, 0, 0, access, true, 0));
            refused("6: a field", ARGUMENT, () -> x.member(0, 1, FIELD, 0, 0, access, true, 0));
            refused("6: a constant", ARGUMENT, () -> x.member(0, 1, CONSTANT, 0, 0, access, true, 0));
        }
        refused("6: FIELDS are STATIC", ARGUMENT, () -> x.member(0, 1, FIELD, 0, 0, PUBLIC, false, 0));
        refused("6: and constants", ARGUMENT, () -> x.member(0, 1, CONSTANT, 0, 0, PUBLIC, false, 0));
        refused("6: an abstract method is not", ARGUMENT, () -> x.member(0, 1, METHOD, 0, 0, PUBLIC, true, ABSTRACT));
        due("6: none came", 0, () -> x.look(0, 2));
        due("6: a public method", 1, () -> x.member(0, 1, METHOD, 0, 0, PUBLIC, false, 0));
        due("6: a public abstract one", 2, () -> x.member(0, 1, METHOD, 0, 1, PUBLIC, false, ABSTRACT));
        due("6: a public static one", 3, () -> x.member(0, 1, METHOD, 0, 2, PUBLIC, true, 0));
        due("6: a public static field", 4, () -> x.member(0, 1, FIELD, 0, 0, PUBLIC, true, 0));
        due("6: a public constant", 5, () -> x.member(0, 1, CONSTANT, 0, 1, PUBLIC, true, 0));
    }

    private static void noTwoFieldsNoTwoMethods() {
        LinkArchive x = withType();
        plain(x, 0, 2, NONE);
        x.member(0, 1, FIELD, 0, 0, PUBLIC, false, 1);
        x.member(0, 1, CONSTANT, 15, 3, PUBLIC, true, 1);
        refused("6: a field twice", ARGUMENT, () -> x.member(0, 1, FIELD, 0, 0, PUBLIC, false, 1));
        refused("6: a field as a constant", ARGUMENT, () -> x.member(0, 1, CONSTANT, 0, 0, PUBLIC, true, 1));
        refused("6: a constant twice", ARGUMENT, () -> x.member(0, 1, CONSTANT, 15, 3, PUBLIC, true, 1));
        refused("6: a constant as a field", ARGUMENT, () -> x.member(0, 1, FIELD, 15, 3, PRIVATE, true, 2));
        due("6: a method beside the field", 3, () -> x.member(0, 1, METHOD, 0, 0, PUBLIC, false, 1));
        due("6: a method beside the constant", 4, () -> x.member(0, 1, METHOD, 15, 3, PUBLIC, false, 1));
        refused("6: a method twice", ARGUMENT, () -> x.member(0, 1, METHOD, 0, 0, PUBLIC, false, 1));
        refused("6: another method of its name and sort", ARGUMENT,
                () -> x.member(0, 1, METHOD, 15, 3, PRIVATE, true, 2));
        due("6: another sort", 5, () -> x.member(0, 1, FIELD, 0, 3, PUBLIC, false, 1));
        due("6: another name", 6, () -> x.member(0, 1, FIELD, 15, 0, PUBLIC, false, 1));
        due("6: another type", 1, () -> x.member(0, 2, FIELD, 0, 0, PUBLIC, false, 1));
    }

    private static void thereAre6Members() {
        for (int kind = 0; kind < 4; kind++) {
            LinkArchive x = withType();
            plain(x, 0, 2, NONE);
            for (int i = 0; i < 6; i++) {
                int what = kind < 3 ? kind : i % 3;
                int name = i;
                due("6: how many", i + 1, () -> x.member(0, 1, what, name, 3, PUBLIC, true, 0));
            }
            for (int w = 0; w < 3; w++) {
                int what = w;
                refused("6: a seventh", FULL, () -> x.member(0, 1, what, 6, 0, PUBLIC, true, 0));
            }
            int has = kind < 3 ? kind : 0;
            refused("6: one that is there", ARGUMENT, () -> x.member(0, 1, has, 0, 3, PUBLIC, true, 0));
            refused("6: no what", ARGUMENT, () -> x.member(0, 1, 3, 6, 0, PUBLIC, true, 0));
            refused("6: no name", ARGUMENT, () -> x.member(0, 1, FIELD, 16, 0, PUBLIC, true, 0));
            refused("6: no sort", ARGUMENT, () -> x.member(0, 1, FIELD, 6, 4, PUBLIC, true, 0));
            refused("6: no access", ARGUMENT, () -> x.member(0, 1, FIELD, 6, 0, 4, true, 0));
            refused("6: no body", ARGUMENT, () -> x.member(0, 1, FIELD, 6, 0, PUBLIC, true, 10));
            refused("6: it cannot be so", ARGUMENT, () -> x.member(0, 1, METHOD, 6, 0, PUBLIC, true, ABSTRACT));
            due("6: six there are", 6, () -> x.look(0, 2));
            due("6: another type has its own six", 1, () -> x.member(0, 2, METHOD, 0, 0, PUBLIC, true, 0));
            x.drop(0, 1, has == METHOD ? METHOD : FIELD, 0, 3);
            due("6: when one goes", 6, () -> x.member(0, 1, METHOD, 7, 0, PUBLIC, true, 0));
            refused("6: one may come", FULL, () -> x.member(0, 1, METHOD, 8, 0, PUBLIC, true, 0));
        }
    }

    // ---- promise 7 ----

    private static void drops() {
        dropsAreOfOpenEditions();
        thereWasNone();
        anotherWhatDropsNothing();
        aFieldIsNoMethod();
        nameAndSortCountForNothingOfAType();
        eachTypeOfTenCanGo();
        eachMemberOfSixCanGo();
        whatComesAnewIsEmpty();
        roomThatWasLeftIsFilledAgain();
    }

    private static void dropsAreOfOpenEditions() {
        LinkArchive x = withType();
        for (int wrong : outside(0, 0)) {
            refused("7: no edition " + wrong, INDEX, () -> bit(x.drop(wrong, 1, WHOLE_TYPE, 0, 0)));
        }
        x.member(0, 1, FIELD, 0, 0, PUBLIC, false, 0);
        sealed(x, 0);
        for (int i = -1; i < 4; i++) {
            int what = i;
            refused("7: of a sealed one, what " + i, STATE, () -> bit(x.drop(0, 1, what, 0, 0)));
        }
        due("7: nothing went", 1, () -> x.look(0, 2));
    }

    private static void thereWasNone() {
        LinkArchive empty = withEdition();
        for (int what = 0; what < 3; what++) {
            int gone = what;
            no("7: of an empty edition, what " + what, () -> empty.drop(0, 0, gone, 0, 0));
        }
        LinkArchive x = withType();
        no("7: of an empty type, a field", () -> x.drop(0, 1, FIELD, 0, 0));
        no("7: of an empty type, a method", () -> x.drop(0, 1, METHOD, 0, 0));
        x.member(0, 1, FIELD, 1, 0, PUBLIC, false, 0);
        x.member(0, 1, METHOD, 0, 3, PUBLIC, false, 0);
        for (int wrong : outside(0, 15)) {
            no("7: type " + wrong, () -> x.drop(0, wrong, WHOLE_TYPE, 0, 0));
            no("7: a field of type " + wrong, () -> x.drop(0, wrong, FIELD, 1, 0));
            no("7: a method of type " + wrong, () -> x.drop(0, wrong, METHOD, 0, 3));
            no("7: field " + wrong, () -> x.drop(0, 1, FIELD, wrong, 0));
            no("7: method " + wrong, () -> x.drop(0, 1, METHOD, wrong, 3));
        }
        for (int wrong : outside(0, 3)) {
            no("7: a field's sort " + wrong, () -> x.drop(0, 1, FIELD, 1, wrong));
            no("7: a method's sort " + wrong, () -> x.drop(0, 1, METHOD, 0, wrong));
            // As one number, name 0 with sort 4 would be name 1 with sort 0, and name 1 with sort -1 the other one.
            no("7: the name below with sort " + wrong, () -> x.drop(0, 1, FIELD, 0, wrong));
            no("7: the name above with sort " + wrong, () -> x.drop(0, 1, METHOD, 1, wrong));
        }
        no("7: a type that is not there", () -> x.drop(0, 0, WHOLE_TYPE, 0, 0));
        no("7: a field of another sort", () -> x.drop(0, 1, FIELD, 1, 1));
        no("7: a field of another name", () -> x.drop(0, 1, FIELD, 2, 0));
        due("7: nothing went", 2, () -> x.look(0, 2));
        yes("7: the field", () -> x.drop(0, 1, FIELD, 1, 0));
        no("7: is gone", () -> x.drop(0, 1, FIELD, 1, 0));
        yes("7: the method", () -> x.drop(0, 1, METHOD, 0, 3));
        no("7: is gone too", () -> x.drop(0, 1, METHOD, 0, 3));
        yes("7: the type", () -> x.drop(0, 1, WHOLE_TYPE, 0, 0));
        no("7: is gone as well", () -> x.drop(0, 1, WHOLE_TYPE, 0, 0));
        due("7: the edition is empty", 0, () -> x.look(0, 1));
    }

    private static void anotherWhatDropsNothing() {
        LinkArchive x = withType();
        x.member(0, 1, FIELD, 0, 0, PUBLIC, false, 0);
        x.member(0, 1, METHOD, 0, 0, PUBLIC, false, 0);
        for (int wrong : outside(0, 2)) {
            no("7: what " + wrong, () -> x.drop(0, 1, wrong, 0, 0));
        }
        due("7: the type is there", 1, () -> x.look(0, 1));
        due("7: with its members", 2, () -> x.look(0, 2));
    }

    private static void aFieldIsNoMethod() {
        LinkArchive x = withType();
        x.member(0, 1, METHOD, 0, 0, PUBLIC, false, 0);
        x.member(0, 1, CONSTANT, 1, 0, PUBLIC, true, 0);
        no("7: no field where there is a method", () -> x.drop(0, 1, FIELD, 0, 0));
        no("7: no method where there is a constant", () -> x.drop(0, 1, METHOD, 1, 0));
        yes("7: a constant goes as a field", () -> x.drop(0, 1, FIELD, 1, 0));
        x.member(0, 1, FIELD, 0, 0, PUBLIC, false, 0);
        yes("7: of both the method", () -> x.drop(0, 1, METHOD, 0, 0));
        yes("7: then the field", () -> x.drop(0, 1, FIELD, 0, 0));
        due("7: none is left", 0, () -> x.look(0, 2));
    }

    private static void nameAndSortCountForNothingOfAType() {
        for (int any : outside(0, 3)) {
            LinkArchive x = withType();
            plain(x, 0, 2, NONE);
            x.member(0, 1, FIELD, 0, 0, PUBLIC, false, 0);
            x.member(0, 2, FIELD, 0, 0, PUBLIC, false, 0);
            yes("7: a type with name and sort " + any, () -> x.drop(0, 1, WHOLE_TYPE, any, any));
            due("7: it went", 1, () -> x.look(0, 1));
            due("7: with all that it had", 1, () -> x.look(0, 2));
        }
    }

    private static void eachTypeOfTenCanGo() {
        for (int i = 0; i < 10; i++) {
            int gone = i;
            LinkArchive x = withEdition();
            for (int t = 0; t < 10; t++) {
                plain(x, 0, t, NONE);
                x.member(0, t, FIELD, t, 0, PUBLIC, true, t % 10);
            }
            yes("7: type " + i + " of ten", () -> x.drop(0, gone, WHOLE_TYPE, 0, 0));
            due("7: nine are left", 9, () -> x.look(0, 1));
            due("7: and nine members", 9, () -> x.look(0, 2));
            plain(x, 0, 15, NONE);
            due("7: room for one", 10, () -> x.look(0, 1));
            due("7: which is empty", 9, () -> x.look(0, 2));
            sealed(x, 0);
            for (int t = 0; t < 10; t++) {
                int name = t;
                due("7: type " + t + " has its field", t == gone ? NONE : t, () -> x.find(0, name, false, name, 0));
            }
        }
    }

    private static void eachMemberOfSixCanGo() {
        for (int i = 0; i < 6; i++) {
            int gone = i;
            LinkArchive x = withType();
            for (int m = 0; m < 6; m++) {
                x.member(0, 1, m % 2, m, 0, PUBLIC, true, m);
            }
            yes("7: member " + i + " of six", () -> x.drop(0, 1, gone % 2, gone, 0));
            due("7: five are left", 5, () -> x.look(0, 2));
            due("7: room for one", 6, () -> x.member(0, 1, METHOD, 15, 3, PUBLIC, true, 0));
            sealed(x, 0);
            for (int m = 0; m < 6; m++) {
                int name = m;
                due("7: member " + m, m == gone ? NONE : 1, () -> x.find(0, 1, name % 2 == 1, name, 0));
            }
            due("7: the new one", 1, () -> x.find(0, 1, true, 15, 3));
        }
    }

    private static void whatComesAnewIsEmpty() {
        LinkArchive x = withType();
        for (int m = 0; m < 6; m++) {
            x.member(0, 1, m % 2, m, 0, PUBLIC, true, m);
        }
        x.drop(0, 1, WHOLE_TYPE, 0, 0);
        plain(x, 0, 2, NONE);
        for (int m = 0; m < 6; m++) {
            int name = m;
            no("7: nothing of the type that is gone, " + m, () -> x.drop(0, 2, name % 2, name, 0));
            due("7: each may come again, " + m, m + 1, () -> x.member(0, 2, name % 2, name, 0, PUBLIC, true, name));
        }
        refused("7: up to six", FULL, () -> x.member(0, 2, FIELD, 9, 0, PUBLIC, true, 0));
    }

    private static void roomThatWasLeftIsFilledAgain() {
        LinkArchive x = withType();
        LinkArchive y = withEdition();
        for (int i = 0; i < 6; i++) {
            x.member(0, 1, FIELD, i, 0, PUBLIC, true, i);
            plain(y, 0, i, NONE);
        }
        for (int i = 0; i < 4; i++) {
            x.drop(0, 1, FIELD, i, 0);
            y.drop(0, i, WHOLE_TYPE, 0, 0);
        }
        for (int i = 0; i < 3; i++) {
            x.member(0, 1, METHOD, i, 1, PUBLIC, true, i);
            face(y, 0, 10 + i);
            y.implement(0, 4, 10 + i);
        }
        sealed(x, 0);
        sealed(y, 0);
        for (int i = 0; i < 6; i++) {
            int name = i;
            due("7: field " + i, i < 4 ? NONE : 1, () -> x.find(0, 1, false, name, 0));
            due("7: method " + i, i < 3 ? 1 : NONE, () -> x.find(0, 1, true, name, 1));
            due("7: interface " + (10 + i), bit(i < 3), () -> bit(y.above(0, 10 + name, 4)));
        }
        due("7: five members", 5, () -> x.look(0, 2));
        x.edition();
        plain(x, 1, 1, NONE);
        for (int i = 0; i < 5; i++) {
            x.member(1, 1, i < 3 ? METHOD : FIELD, i < 3 ? i : i + 1, i < 3 ? 1 : 0, PUBLIC, true, i < 3 ? i : i + 1);
        }
        sealed(x, 1);
        due("7: the same as if the others had never been", 0, () -> x.differ(0, 1));
        due("7: five types", 5, () -> y.look(0, 1));
    }

    // ---- promise 8 ----

    private static void seals() {
        onlyAnOpenEditionIsSealed();
        anEmptyEditionAndAFullOneCanBeSealed();
        aSuperThatIsNotRight();
        interfacesThatAreNotRight();
        aboveItself();
        whatIsNotRightIsToldAheadOfWhatIsAboveItself();
        theFirstByTheOrderOfTypesIsTold();
        whatCannotBeSealedStaysOpen();
        whatWasAboveIsForgotten();
    }

    private static void onlyAnOpenEditionIsSealed() {
        LinkArchive x = withEdition();
        for (int wrong : outside(0, 0)) {
            refused("8: no edition " + wrong, INDEX, () -> x.seal(wrong));
        }
        due("8: it can be sealed", NONE, () -> x.seal(0));
        refused("8: once", STATE, () -> x.seal(0));
        due("8: it stays sealed", 1, () -> x.look(0, 0));
    }

    private static void anEmptyEditionAndAFullOneCanBeSealed() {
        LinkArchive x = withEdition();
        x.edition();
        due("8: an empty one", NONE, () -> x.seal(0));
        fill(x, 1);
        due("8: a full one", NONE, () -> x.seal(1));
        LinkArchive chain = withEdition();
        for (int t = 9; t >= 0; t--) {
            plain(chain, 0, t, t - 1);
        }
        due("8: ten classes in a chain, the lowest first", NONE, () -> chain.seal(0));
        LinkArchive diamond = withEdition();
        face(diamond, 0, 0);
        for (int t = 1; t < 4; t++) {
            face(diamond, 0, t);
            diamond.implement(0, t, 0);
        }
        plain(diamond, 0, 4, NONE);
        plain(diamond, 0, 5, 4);
        for (int t = 1; t < 4; t++) {
            diamond.implement(0, 4, t);
            diamond.implement(0, 5, t);
        }
        due("8: one that is above another by many ways", NONE, () -> diamond.seal(0));
    }

    private static void aSuperThatIsNotRight() {
        LinkArchive x = withEdition();
        plain(x, 0, 3, 0);
        due("8: super 0 is not there", 3, () -> x.seal(0));
        x.drop(0, 3, WHOLE_TYPE, 0, 0);
        plain(x, 0, 3, 15);
        due("8: super 15 is not there", 3, () -> x.seal(0));
        face(x, 0, 15);
        due("8: it is no CLASS", 3, () -> x.seal(0));
        x.drop(0, 15, WHOLE_TYPE, 0, 0);
        x.type(0, 15, false, true, 3, false, NONE);
        due("8: an abstract class of another package is right", NONE, () -> x.seal(0));
        LinkArchive zero = withEdition();
        plain(zero, 0, 0, 1);
        due("8: name 0 can be told", 0, () -> zero.seal(0));
    }

    private static void interfacesThatAreNotRight() {
        for (int place = 0; place < 3; place++) {
            int wrong = place;
            LinkArchive x = withEdition();
            plain(x, 0, 9, NONE);
            for (int i = 0; i < 3; i++) {
                x.implement(0, 9, i);
                if (i != wrong) {
                    face(x, 0, i);
                }
            }
            due("8: interface " + place + " is not there", 9, () -> x.seal(0));
            plain(x, 0, wrong, NONE);
            due("8: it is a CLASS", 9, () -> x.seal(0));
            x.drop(0, wrong, WHOLE_TYPE, 0, 0);
            face(x, 0, wrong);
            due("8: it is right", NONE, () -> x.seal(0));
        }
        LinkArchive y = withEdition();
        face(y, 0, 2);
        y.implement(0, 2, 5);
        plain(y, 0, 5, NONE);
        due("8: an interface cannot lean on a class", 2, () -> y.seal(0));
        LinkArchive z = withEdition();
        plain(z, 0, 4, NONE);
        plain(z, 0, 2, 4);
        z.implement(0, 2, 4);
        due("8: nor can a super be an interface beside it", 2, () -> z.seal(0));
        LinkArchive w = withEdition();
        plain(w, 0, 4, NONE);
        w.implement(0, 4, 4);
        due("8: nor a class its own interface", 4, () -> w.seal(0));
    }

    private static void aboveItself() {
        for (int length = 1; length <= 10; length++) {
            LinkArchive classes = withEdition();
            LinkArchive faces = withEdition();
            for (int t = 0; t < length; t++) {
                plain(classes, 0, t, (t + 1) % length);
                face(faces, 0, t);
                faces.implement(0, t, (t + 1) % length);
            }
            due("8: a ring of " + length + " classes", 0, () -> classes.seal(0));
            due("8: a ring of " + length + " interfaces", 0, () -> faces.seal(0));
            due("8: it stays OPEN", 0, () -> classes.look(0, 0));
        }
        LinkArchive third = withEdition();
        for (int t = 0; t < 4; t++) {
            face(third, 0, t);
        }
        third.implement(0, 3, 0);
        third.implement(0, 3, 1);
        third.implement(0, 3, 2);
        third.implement(0, 2, 3);
        due("8: by a third interface", 2, () -> third.seal(0));
        LinkArchive under = withEdition();
        plain(under, 0, 5, 6);
        plain(under, 0, 6, 7);
        plain(under, 0, 7, 6);
        due("8: one below a ring is not above itself", 6, () -> under.seal(0));
    }

    private static void whatIsNotRightIsToldAheadOfWhatIsAboveItself() {
        LinkArchive x = withEdition();
        plain(x, 0, 0, 0);
        plain(x, 0, 1, 9);
        due("8: a super that is not there", 1, () -> x.seal(0));
        x.drop(0, 1, WHOLE_TYPE, 0, 0);
        plain(x, 0, 1, NONE);
        x.implement(0, 1, 9);
        due("8: an interface that is not there", 1, () -> x.seal(0));
        x.drop(0, 1, WHOLE_TYPE, 0, 0);
        due("8: then what is above itself", 0, () -> x.seal(0));
    }

    private static void theFirstByTheOrderOfTypesIsTold() {
        LinkArchive x = withEdition();
        plain(x, 0, 8, 15);
        plain(x, 0, 2, 15);
        due("8: not the least name", 8, () -> x.seal(0));
        x.drop(0, 8, WHOLE_TYPE, 0, 0);
        plain(x, 0, 8, 15);
        due("8: one that came anew is the last", 2, () -> x.seal(0));
        plain(x, 0, 15, NONE);
        face(x, 0, 11);
        x.implement(0, 11, 11);
        face(x, 0, 1);
        x.implement(0, 1, 1);
        due("8: of those above themselves too", 11, () -> x.seal(0));
    }

    private static void whatCannotBeSealedStaysOpen() {
        LinkArchive x = withEdition();
        plain(x, 0, 1, 2);
        due("8: it cannot be sealed", 1, () -> x.seal(0));
        due("8: it stays OPEN", 0, () -> x.look(0, 0));
        refused("8: for above", STATE, () -> bit(x.above(0, 2, 1)));
        refused("8: for find", STATE, () -> x.find(0, 1, true, 0, 0));
        refused("8: for select", STATE, () -> x.select(0, 1, 0, 0, 1));
        refused("8: for caller", STATE, () -> x.caller(0, 0, NONE));
        refused("8: for copy", STATE, () -> x.copy(0));
        refused("8: for differ", STATE, () -> x.differ(0, 0));
        refused("8: for difference", STATE, () -> x.difference(0, 0, 0, 0));
        refused("8: for compatible", STATE, () -> bit(x.compatible(0, 0)));
        due("8: a type can come", 2, () -> x.type(0, 2, false, false, 0, true, 1));
        due("8: now both are above themselves", 1, () -> x.seal(0));
        due("8: a member can come", 1, () -> x.member(0, 1, FIELD, 0, 0, PUBLIC, false, 0));
        due("8: an interface can come", 1, () -> x.implement(0, 1, 3));
        due("8: which is not right", 1, () -> x.seal(0));
        yes("8: a type can go", () -> x.drop(0, 1, WHOLE_TYPE, 0, 0));
        plain(x, 0, 1, NONE);
        due("8: till it can be sealed", NONE, () -> x.seal(0));
        yes("8: with what is above now", () -> x.above(0, 1, 2));
        no("8: and not what was", () -> x.above(0, 2, 1));
    }

    /** Sealing fails while much is above type 9, and is done when little is. */
    private static void whatWasAboveIsForgotten() {
        LinkArchive x = withEdition();
        for (int i = 0; i < 3; i++) {
            face(x, 0, i);
            x.member(0, i, FIELD, i, 0, PUBLIC, true, 0);
            method(x, 0, i, i, PUBLIC, 1);
        }
        face(x, 0, 9);
        for (int i = 0; i < 3; i++) {
            x.implement(0, 9, i);
        }
        face(x, 0, 10);
        x.implement(0, 10, 10);
        due("8: 10 is above itself", 10, () -> x.seal(0));
        x.drop(0, 10, WHOLE_TYPE, 0, 0);
        x.drop(0, 9, WHOLE_TYPE, 0, 0);
        face(x, 0, 9);
        x.implement(0, 9, 1);
        sealed(x, 0);
        for (int i = 0; i < 3; i++) {
            int name = i;
            due("8: above 9: " + i, bit(i == 1), () -> bit(x.above(0, name, 9)));
            due("8: a field of " + i, i == 1 ? 1 : NONE, () -> x.find(0, 9, false, name, 0));
            due("8: a method of " + i, i == 1 ? 1 : NONE, () -> x.find(0, 9, true, name, 0));
        }
    }
}
