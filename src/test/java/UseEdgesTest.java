/** The boundary cases of promises 12 to 18: each sentence that names one has a test of its own. */
public final class UseEdgesTest extends ArchiveCalls {
    private static final int NO_USE = NONE;

    public static void main(String[] args) {
        begin("UseEdgesTest");
        callers();
        uses();
        theFirstThatHoldsIsMet();
        copiedConstants();
        accessToAMember();
        receivers();
        foretellsRefuse();
        runs();
        copied();
        meets();
        best();
        finish();
    }

    // ---- promise 12 ----

    private static void callers() {
        aCallerIsOfASealedEdition();
        aCallersPackageIs0To4();
        aCallersSuperIsAClassThere();
        thereAre12Callers();
    }

    private static void aCallerIsOfASealedEdition() {
        LinkArchive x = withEdition();
        refused("12: an OPEN one", STATE, () -> x.caller(0, 0, NONE));
        for (int wrong : outside(0, 0)) {
            refused("12: no edition " + wrong, INDEX, () -> x.caller(wrong, 0, NONE));
        }
        due("12: none came", 0, () -> x.count(1));
        sealed(x, 0);
        due("12: a sealed one, though empty", 0, () -> x.caller(0, 0, NONE));
    }

    private static void aCallersPackageIs0To4() {
        LinkArchive x = withEdition();
        sealed(x, 0);
        for (int wrong : outside(0, 4)) {
            refused("12: package " + wrong, ARGUMENT, () -> x.caller(0, wrong, NONE));
        }
        for (int i = 0; i < 5; i++) {
            int pack = i;
            due("12: package " + i, i, () -> x.caller(0, pack, NONE));
        }
    }

    private static void aCallersSuperIsAClassThere() {
        LinkArchive x = withEdition();
        plain(x, 0, 0, NONE);
        x.type(0, 15, false, true, 3, false, NONE);
        face(x, 0, 1);
        sealed(x, 0);
        x.edition();
        plain(x, 1, 2, NONE);
        sealed(x, 1);
        for (int wrong : outside(NONE, 15)) {
            refused("12: super " + wrong, ARGUMENT, () -> x.caller(0, 0, wrong));
        }
        refused("12: an INTERFACE", ARGUMENT, () -> x.caller(0, 0, 1));
        refused("12: a CLASS of another edition", ARGUMENT, () -> x.caller(0, 0, 2));
        refused("12: none of that name", ARGUMENT, () -> x.caller(0, 0, 14));
        due("12: no caller came", 0, () -> x.count(1));
        due("12: super 0", 0, () -> x.caller(0, 0, 0));
        due("12: an abstract class that is not public, of another package", 1, () -> x.caller(0, 0, 15));
        due("12: none", 2, () -> x.caller(0, 0, NONE));
        due("12: there it is", 3, () -> x.caller(1, 0, 2));
    }

    private static void thereAre12Callers() {
        LinkArchive x = withEdition();
        plain(x, 0, 0, NONE);
        sealed(x, 0);
        x.copy(0);
        sealed(x, 1);
        x.edition();
        for (int i = 0; i < 12; i++) {
            int e = i % 2;
            due("12: numbered from 0 on, whatever edition", i, () -> x.caller(e, 0, NONE));
        }
        refused("12: a thirteenth", FULL, () -> x.caller(0, 0, NONE));
        refused("12: of another edition too", FULL, () -> x.caller(1, 4, 0));
        refused("12: of no package", ARGUMENT, () -> x.caller(0, 5, NONE));
        refused("12: of no super", ARGUMENT, () -> x.caller(0, 0, 1));
        refused("12: of an OPEN edition", STATE, () -> x.caller(2, 0, NONE));
        refused("12: of no edition", INDEX, () -> x.caller(3, 0, NONE));
        due("12: twelve there are", 12, () -> x.count(1));
        due("12: the twelfth can have uses", 0, () -> x.use(11, 5, 0, 0, 0, 0));
        due("12: the first has none of them", 0, () -> x.uses(0));
    }

    // ---- promise 13 ----

    private static void uses() {
        kindsAre0To5();
        whatCountsForNothingMayBeAnyNumber();
        whatCountsAndIsNoneIsNotWell();
        aUseThatIsNotWellDoesNotCome();
        thereAre20Uses();
    }

    /** Class 1 with a METHOD and a FIELD of an object and of its own, interface 3 with a METHOD, class 2 below both. */
    private static LinkArchive ownEdition() {
        LinkArchive x = withEdition();
        plain(x, 0, 1, NONE);
        x.member(0, 1, FIELD, 0, 0, PUBLIC, false, 1);
        x.member(0, 1, FIELD, 1, 0, PUBLIC, true, 1);
        x.member(0, 1, METHOD, 0, 0, PUBLIC, false, 1);
        x.member(0, 1, METHOD, 1, 0, PUBLIC, true, 1);
        face(x, 0, 3);
        method(x, 0, 3, 5, PUBLIC, 1);
        plain(x, 0, 2, 1);
        x.implement(0, 2, 3);
        sealed(x, 0);
        x.caller(0, 4, NONE);
        return x;
    }

    /** To a CALLER of ownEdition() come a USE of each KIND, which has the KIND's number. */
    private static void useAllKinds(LinkArchive x, int caller) {
        due("13: kind 0", 0, () -> x.use(caller, 0, 1, 0, 0, NONE));
        due("13: kind 1", 1, () -> x.use(caller, 1, 1, 1, 0, NONE));
        due("13: kind 2", 2, () -> x.use(caller, 2, 1, 0, 0, 2));
        due("13: kind 3", 3, () -> x.use(caller, 3, 1, 1, 0, NONE));
        due("13: kind 4", 4, () -> x.use(caller, 4, 3, 5, 0, 2));
        due("13: kind 5", 5, () -> x.use(caller, 5, 1, NONE, NONE, NONE));
    }

    private static void kindsAre0To5() {
        LinkArchive x = ownEdition();
        for (int wrong : outside(0, 5)) {
            refused("13: kind " + wrong, ARGUMENT, () -> x.use(0, wrong, 1, 0, 0, 2));
            refused("13: of no type, kind " + wrong, ARGUMENT, () -> x.use(0, wrong, 9, 0, 0, 2));
        }
        for (int wrong : outside(0, 0)) {
            refused("13: no caller " + wrong, INDEX, () -> x.use(wrong, 5, 1, 0, 0, 0));
            refused("13: no caller nor kind " + wrong, INDEX, () -> x.use(wrong, 6, 1, 0, 0, 0));
        }
        due("13: none came", 0, () -> x.uses(0));
        useAllKinds(x, 0);
    }

    private static void whatCountsForNothingMayBeAnyNumber() {
        LinkArchive x = ownEdition();
        int[] anything = outside(0, 15);
        for (int i = 0; i < 11; i++) {
            x.caller(0, 4, NONE);
        }
        for (int i = 0; i < anything.length; i++) {
            int any = anything[i];
            int first = i * 4 % 20;
            int caller = i * 4 / 20;
            due("13: of kind 0 a receiver " + any, first, () -> x.use(caller, 0, 1, 0, 0, any));
            due("13: of kind 1 a receiver " + any, first + 1, () -> x.use(caller, 1, 1, 1, 0, any));
            due("13: of kind 3 a receiver " + any, first + 2, () -> x.use(caller, 3, 1, 1, 0, any));
            due("13: of kind 5 a name, sort, receiver " + any, first + 3, () -> x.use(caller, 5, 1, any, any, any));
        }
    }

    private static void whatCountsAndIsNoneIsNotWell() {
        for (int kind = 0; kind < 6; kind++) {
            LinkArchive x = ownEdition();
            int k = kind;
            int type = k == 4 ? 3 : 1;
            int name = k == 4 ? 5 : k % 2;
            for (int wrong : outside(0, 15)) {
                due("13: type " + wrong + " of kind " + k, NO_USE, () -> x.use(0, k, wrong, name, 0, 2));
                if (k != 5) {
                    due("13: name " + wrong + " of kind " + k, NO_USE, () -> x.use(0, k, type, wrong, 0, 2));
                }
                if (k == 2 || k == 4) {
                    due("13: receiver " + wrong + " of kind " + k, NO_USE, () -> x.use(0, k, type, name, 0, wrong));
                }
            }
            for (int wrong : outside(0, 3)) {
                if (k != 5) {
                    due("13: sort " + wrong + " of kind " + k, NO_USE, () -> x.use(0, k, type, name, wrong, 2));
                }
            }
            due("13: none came of kind " + k, 0, () -> x.uses(0));
            due("13: but one that is WELL", 0, () -> x.use(0, k, type, name, 0, 2));
        }
    }

    private static void aUseThatIsNotWellDoesNotCome() {
        LinkArchive x = withEdition();
        x.type(0, 1, false, true, 1, true, NONE);
        x.type(0, 2, false, false, 1, false, NONE);
        face(x, 0, 3);
        method(x, 0, 3, 0, PUBLIC, ABSTRACT);
        x.type(0, 4, false, false, 1, true, 1);
        x.implement(0, 4, 3);
        method(x, 0, 4, 0, PROTECTED, 1);
        method(x, 0, 4, 1, PUBLIC, 1);
        x.member(0, 4, METHOD, 2, 0, PUBLIC, true, 1);
        method(x, 0, 4, 3, PUBLIC, ABSTRACT);
        sealed(x, 0);
        x.caller(0, 0, NONE);
        due("13: 1 NO TYPE", NO_USE, () -> x.use(0, 5, 9, 0, 0, 0));
        due("13: 1 NO TYPE of the receiver", NO_USE, () -> x.use(0, 2, 4, 1, 0, 9));
        due("13: 2 NO MEMBER", NO_USE, () -> x.use(0, 2, 4, 9, 0, 4));
        due("13: 3 NO ACCESS to the type", NO_USE, () -> x.use(0, 5, 2, 0, 0, 0));
        due("13: 3 NO ACCESS to the member", NO_USE, () -> x.use(0, 2, 4, 0, 0, 4));
        due("13: 3 NO ACCESS to what runs", NO_USE, () -> x.use(0, 4, 3, 0, 0, 4));
        due("13: 4 STATIC", NO_USE, () -> x.use(0, 2, 4, 2, 0, 4));
        due("13: 4 not STATIC", NO_USE, () -> x.use(0, 3, 4, 1, 0, 4));
        due("13: 5 ABSTRACT type", NO_USE, () -> x.use(0, 5, 1, 0, 0, 0));
        due("13: 5 ABSTRACT method", NO_USE, () -> x.use(0, 2, 4, 3, 0, 4));
        due("13: 6 SHAPE of the type", NO_USE, () -> x.use(0, 4, 4, 1, 0, 4));
        due("13: 6 SHAPE of the receiver", NO_USE, () -> x.use(0, 2, 4, 1, 0, 1));
        due("13: none has come", 0, () -> x.uses(0));
        refused("13: none has a number", INDEX, () -> x.foretell(0, 0, 0));
        due("13: the first that is WELL has 0", 0, () -> x.use(0, 2, 4, 1, 0, 4));
        due("13: one between is not counted", NO_USE, () -> x.use(0, 5, 1, 0, 0, 0));
        due("13: the next has 1", 1, () -> x.use(0, 3, 4, 2, 0, 0));
        due("13: the first is what it was", 4, () -> x.runs(0, 0, 0));
    }

    private static void thereAre20Uses() {
        LinkArchive x = ownEdition();
        x.caller(0, 4, NONE);
        for (int i = 0; i < 20; i++) {
            due("13: numbered from 0 on, the same ones too", i, () -> x.use(0, 5, 1, 0, 0, 0));
        }
        refused("13: it has 20", FULL, () -> x.use(0, 5, 1, 0, 0, 0));
        refused("13: of another kind too", FULL, () -> x.use(0, 3, 1, 1, 0, 0));
        refused("13: one that would not be WELL is refused too", FULL, () -> x.use(0, 5, 9, 0, 0, 0));
        refused("13: no kind ahead of that", ARGUMENT, () -> x.use(0, 6, 1, 0, 0, 0));
        refused("13: no caller ahead of both", INDEX, () -> x.use(2, 6, 1, 0, 0, 0));
        due("13: twenty there are", 20, () -> x.uses(0));
        due("13: the twentieth can be asked for", 0, () -> x.foretell(0, 0, 19));
        refused("13: there is no more", INDEX, () -> x.foretell(0, 0, 20));
        due("13: another caller has its own", 0, () -> x.use(1, 5, 1, 0, 0, 0));
    }

    // ---- promise 14 ----

    /** With each EDITION all that is told later is wrong too; the first that holds is met. */
    private static void theFirstThatHoldsIsMet() {
        fieldsAndStaticMembers();
        methodsByAClass();
        methodsByAnInterface();
        newObjects();
    }

    private static void fieldsAndStaticMembers() {
        LinkArchive x = ownEdition();
        useAllKinds(x, 0);
        foretold("14: all are WELL in their own edition", x, 0, 0, 0, 0, 0, 0, 0, 0);
        for (int e = 1; e < 7; e++) {
            x.edition();
        }
        sealed(x, 1);
        foretold("14: 1 NO TYPE, in an empty edition", x, 0, 1, 1, 1, 1, 1, 1, 1);
        x.type(2, 1, true, false, 3, false, NONE);
        sealed(x, 2);
        due("14: 3 NO ACCESS to T ahead of NO MEMBER, kind 0", 3, () -> x.foretell(0, 2, 0));
        due("14: kind 1", 3, () -> x.foretell(0, 2, 1));
        due("14: kind 3", 3, () -> x.foretell(0, 2, 3));
        due("14: kind 5, ahead of ABSTRACT", 3, () -> x.foretell(0, 2, 5));
        face(x, 3, 1);
        sealed(x, 3);
        due("14: 2 NO MEMBER, of an interface too, kind 0", 2, () -> x.foretell(0, 3, 0));
        due("14: kind 1", 2, () -> x.foretell(0, 3, 1));
        due("14: kind 3", 2, () -> x.foretell(0, 3, 3));
        due("14: kind 5 is ABSTRACT", 5, () -> x.foretell(0, 3, 5));
        membersOfOne(x, 4, PROTECTED, true);
        sealed(x, 4);
        due("14: 3 NO ACCESS ahead of STATIC, kind 0", 3, () -> x.foretell(0, 4, 0));
        due("14: kind 1", 3, () -> x.foretell(0, 4, 1));
        due("14: kind 3", 3, () -> x.foretell(0, 4, 3));
        membersOfOne(x, 5, PUBLIC, true);
        sealed(x, 5);
        due("14: 4 STATIC, kind 0", 4, () -> x.foretell(0, 5, 0));
        due("14: 4 not STATIC, kind 1", 4, () -> x.foretell(0, 5, 1));
        due("14: 4 not STATIC, kind 3", 4, () -> x.foretell(0, 5, 3));
        membersOfOne(x, 6, PUBLIC, false);
        sealed(x, 6);
        due("14: WELL, kind 0", 0, () -> x.foretell(0, 6, 0));
        due("14: WELL, kind 1", 0, () -> x.foretell(0, 6, 1));
        due("14: WELL, kind 3", 0, () -> x.foretell(0, 6, 3));
    }

    /** Class 1 with the members of ownEdition(), STATIC as there or just not. */
    private static void membersOfOne(LinkArchive x, int e, int access, boolean turned) {
        plain(x, e, 1, NONE);
        x.member(e, 1, FIELD, 0, 0, access, turned, 9);
        x.member(e, 1, FIELD, 1, 0, access, !turned, 9);
        x.member(e, 1, METHOD, 0, 0, access, turned, 9);
        x.member(e, 1, METHOD, 1, 0, access, !turned, 9);
    }

    /** A CALLER's one USE, of KIND 2: METHOD 0 by class 1, the RECEIVER 2 below it, whose METHOD runs. */
    private static LinkArchive callByClass() {
        LinkArchive x = withEdition();
        plain(x, 0, 1, NONE);
        plain(x, 0, 2, 1);
        method(x, 0, 1, 0, PUBLIC, 1);
        method(x, 0, 2, 0, PUBLIC, 1);
        sealed(x, 0);
        x.caller(0, 4, NONE);
        due("14: the use comes", 0, () -> x.use(0, 2, 1, 0, 0, 2));
        x.edition();
        return x;
    }

    private static void methodsByAClass() {
        LinkArchive a = callByClass();
        face(a, 1, 2);
        sealed(a, 1);
        foretold("14: 1 NO TYPE of T", a, 0, 1, 1);
        LinkArchive b = callByClass();
        b.type(1, 1, true, false, 0, false, NONE);
        sealed(b, 1);
        foretold("14: 1 NO TYPE of the receiver ahead of 3", b, 0, 1, 1);
        LinkArchive c = callByClass();
        c.type(1, 1, true, false, 0, false, NONE);
        face(c, 1, 2);
        sealed(c, 1);
        foretold("14: 3 NO ACCESS to T ahead of 6", c, 0, 1, 3);
        LinkArchive d = callByClass();
        face(d, 1, 1);
        face(d, 1, 2);
        sealed(d, 1);
        foretold("14: 6 SHAPE of T ahead of 2", d, 0, 1, 6);
        LinkArchive e = callByClass();
        plain(e, 1, 1, NONE);
        face(e, 1, 2);
        sealed(e, 1);
        foretold("14: 2 NO MEMBER ahead of the receiver's 6", e, 0, 1, 2);
        LinkArchive f = callByClass();
        plain(f, 1, 1, NONE);
        f.member(1, 1, METHOD, 0, 0, PRIVATE, true, 1);
        face(f, 1, 2);
        sealed(f, 1);
        foretold("14: 3 NO ACCESS ahead of 4", f, 0, 1, 3);
        LinkArchive g = callByClass();
        plain(g, 1, 1, NONE);
        g.member(1, 1, METHOD, 0, 0, PUBLIC, true, 1);
        face(g, 1, 2);
        sealed(g, 1);
        foretold("14: 4 STATIC ahead of the receiver's 6", g, 0, 1, 4);
        LinkArchive h = callByClass();
        plain(h, 1, 1, NONE);
        method(h, 1, 1, 0, PUBLIC, ABSTRACT);
        h.type(1, 2, false, true, 0, true, 1);
        sealed(h, 1);
        foretold("14: 6 SHAPE of the receiver ahead of 5", h, 0, 1, 6);
        methodsByAClassThatRun();
    }

    private static void methodsByAClassThatRun() {
        LinkArchive a = callByClass();
        plain(a, 1, 1, NONE);
        method(a, 1, 1, 0, PUBLIC, ABSTRACT);
        plain(a, 1, 2, 1);
        sealed(a, 1);
        foretold("14: 5 ABSTRACT ahead of 8", a, 0, 1, 5);
        LinkArchive b = callByClass();
        plain(b, 1, 1, NONE);
        method(b, 1, 1, 0, PUBLIC, 1);
        plain(b, 1, 2, 1);
        sealed(b, 1);
        foretold("14: 8 OTHER", b, 0, 1, 8);
        LinkArchive c = callByClass();
        plain(c, 1, 1, NONE);
        method(c, 1, 1, 0, PUBLIC, ABSTRACT);
        plain(c, 1, 2, 1);
        method(c, 1, 2, 0, PACKAGE, 9);
        sealed(c, 1);
        foretold("14: 0 WELL: what runs need not be public, nor its body the same", c, 0, 1, 0);
        LinkArchive d = callByClass();
        face(d, 1, 3);
        method(d, 1, 3, 0, PUBLIC, 1);
        face(d, 1, 4);
        method(d, 1, 4, 0, PUBLIC, 1);
        plain(d, 1, 1, NONE);
        d.implement(1, 1, 3);
        plain(d, 1, 2, 1);
        d.implement(1, 2, 4);
        sealed(d, 1);
        foretold("14: 5 ABSTRACT, as SELECTION gives none", d, 0, 1, 5);
    }

    /** A CALLER's one USE, of KIND 4: METHOD 0 by interface 1, the RECEIVER 2 below it, whose METHOD runs. */
    private static LinkArchive callByInterface() {
        LinkArchive x = withEdition();
        face(x, 0, 1);
        method(x, 0, 1, 0, PUBLIC, ABSTRACT);
        plain(x, 0, 2, NONE);
        x.implement(0, 2, 1);
        method(x, 0, 2, 0, PUBLIC, 1);
        sealed(x, 0);
        x.caller(0, 4, NONE);
        due("14: the use comes", 0, () -> x.use(0, 4, 1, 0, 0, 2));
        x.edition();
        return x;
    }

    private static void methodsByAnInterface() {
        LinkArchive a = callByInterface();
        a.type(1, 1, false, false, 0, false, NONE);
        face(a, 1, 2);
        sealed(a, 1);
        foretold("14: 3 NO ACCESS to T ahead of 6", a, 0, 1, 3);
        LinkArchive b = callByInterface();
        plain(b, 1, 1, NONE);
        face(b, 1, 2);
        sealed(b, 1);
        foretold("14: 6 SHAPE: T is no interface, ahead of 2", b, 0, 1, 6);
        LinkArchive c = callByInterface();
        face(c, 1, 1);
        face(c, 1, 2);
        sealed(c, 1);
        foretold("14: 2 NO MEMBER ahead of the receiver's 6", c, 0, 1, 2);
        LinkArchive d = callByInterface();
        face(d, 1, 1);
        d.member(1, 1, METHOD, 0, 0, PUBLIC, true, 1);
        face(d, 1, 2);
        sealed(d, 1);
        foretold("14: 4 STATIC ahead of the receiver's 6", d, 0, 1, 4);
        LinkArchive e = callByInterface();
        face(e, 1, 1);
        method(e, 1, 1, 0, PUBLIC, ABSTRACT);
        plain(e, 1, 2, NONE);
        sealed(e, 1);
        foretold("14: 6 SHAPE of the receiver ahead of 5", e, 0, 1, 6);
        LinkArchive f = callByInterface();
        face(f, 1, 1);
        method(f, 1, 1, 0, PUBLIC, ABSTRACT);
        plain(f, 1, 2, NONE);
        f.implement(1, 2, 1);
        method(f, 1, 2, 0, PACKAGE, ABSTRACT);
        sealed(f, 1);
        foretold("14: 5 ABSTRACT ahead of 3", f, 0, 1, 5);
        methodsByAnInterfaceThatRun();
    }

    private static void methodsByAnInterfaceThatRun() {
        for (int access = PACKAGE; access <= PUBLIC; access++) {
            LinkArchive x = callByInterface();
            face(x, 1, 1);
            method(x, 1, 1, 0, PUBLIC, 1);
            plain(x, 1, 3, NONE);
            method(x, 1, 3, 0, access, 1);
            plain(x, 1, 2, 3);
            x.implement(1, 2, 1);
            sealed(x, 1);
            foretold("14: 3 NO ACCESS to what is not public ahead of 8 OTHER, access " + access, x, 0, 1,
                    access == PUBLIC ? 8 : 3);
        }
        LinkArchive y = callByInterface();
        face(y, 1, 1);
        method(y, 1, 1, 0, PUBLIC, 1);
        plain(y, 1, 2, NONE);
        y.implement(1, 2, 1);
        method(y, 1, 2, 0, PRIVATE, 1);
        sealed(y, 1);
        foretold("14: 8 OTHER, past a private one to the interface's", y, 0, 1, 8);
        LinkArchive z = callByInterface();
        face(z, 1, 1);
        plain(z, 1, 2, NONE);
        z.implement(1, 2, 1);
        method(z, 1, 2, 0, PUBLIC, 1);
        sealed(z, 1);
        foretold("14: 2 NO MEMBER, though the receiver has one", z, 0, 1, 2);
    }

    private static void newObjects() {
        LinkArchive x = withEdition();
        x.type(0, 1, false, false, 2, false, NONE);
        sealed(x, 0);
        x.caller(0, 2, NONE);
        x.use(0, 5, 1, 0, 0, 0);
        for (int e = 1; e < 6; e++) {
            x.edition();
        }
        sealed(x, 1);
        foretold("14: 1 NO TYPE", x, 0, 1, 1);
        x.type(2, 1, false, true, 1, false, NONE);
        sealed(x, 2);
        foretold("14: 3 NO ACCESS ahead of 5", x, 0, 2, 3);
        x.type(3, 1, false, true, 2, false, NONE);
        sealed(x, 3);
        foretold("14: 5 ABSTRACT", x, 0, 3, 5);
        x.type(4, 1, true, false, 2, false, NONE);
        sealed(x, 4);
        foretold("14: 5 of an interface, which always is", x, 0, 4, 5);
        x.type(5, 1, false, false, 3, true, NONE);
        sealed(x, 5);
        foretold("14: 0 of one that is PUBLIC, of whatever package", x, 0, 5, 0);
    }

    private static void copiedConstants() {
        LinkArchive x = withEdition();
        plain(x, 0, 1, NONE);
        plain(x, 0, 2, 1);
        x.member(0, 1, CONSTANT, 0, 0, PUBLIC, true, 0);
        x.member(0, 1, FIELD, 1, 0, PUBLIC, true, 0);
        sealed(x, 0);
        x.caller(0, 4, NONE);
        x.use(0, 1, 2, 0, 0, 0);
        x.use(0, 1, 2, 1, 0, 0);
        foretold("14: in its own edition", x, 0, 0, 0, 0);
        for (int e = 1; e < 8; e++) {
            x.edition();
        }
        sealed(x, 1);
        foretold("14: 9 OLD in an empty edition, ahead of 1", x, 0, 1, 9, 1);
        x.type(2, 2, true, false, 3, false, NONE);
        x.member(2, 2, CONSTANT, 0, 0, PUBLIC, true, 0);
        x.member(2, 2, FIELD, 1, 0, PUBLIC, true, 0);
        sealed(x, 2);
        foretold("14: 0 WELL of the same value, ahead of 3", x, 0, 2, 0, 3);
        plain(x, 3, 2, NONE);
        x.member(3, 2, CONSTANT, 0, 0, PRIVATE, true, 0);
        x.member(3, 2, FIELD, 1, 0, PRIVATE, true, 0);
        sealed(x, 3);
        foretold("14: 0 WELL, though private", x, 0, 3, 0, 3);
        plain(x, 4, 2, NONE);
        x.member(4, 2, CONSTANT, 0, 0, PUBLIC, true, 1);
        x.member(4, 2, CONSTANT, 1, 0, PUBLIC, true, 1);
        sealed(x, 4);
        foretold("14: 9 OLD of another value; a field that became a constant is WELL", x, 0, 4, 9, 0);
        plain(x, 5, 2, NONE);
        x.member(5, 2, FIELD, 0, 0, PUBLIC, true, 0);
        sealed(x, 5);
        foretold("14: 9 OLD of a field that is no constant", x, 0, 5, 9, 2);
        plain(x, 6, 2, NONE);
        x.member(6, 2, FIELD, 0, 0, PUBLIC, false, 0);
        x.member(6, 2, FIELD, 1, 0, PUBLIC, false, 0);
        sealed(x, 6);
        foretold("14: 9 OLD of a field of an object", x, 0, 6, 9, 4);
        plain(x, 7, 2, NONE);
        x.member(7, 2, METHOD, 0, 0, PUBLIC, true, 0);
        sealed(x, 7);
        foretold("14: 9 OLD of a method", x, 0, 7, 9, 2);
    }

    private static void accessToAMember() {
        whoMayTouch();
        thePackageOfTheTypeThatHasItCounts();
        aSuperMustBeThere();
    }

    private static void whoMayTouch() {
        LinkArchive x = withEdition();
        x.type(0, 0, false, false, 1, true, NONE);
        x.type(0, 1, false, false, 1, true, 0);
        for (int access = PRIVATE; access <= PUBLIC; access++) {
            x.member(0, 1, FIELD, access, 0, access, true, 0);
        }
        x.type(0, 2, false, false, 2, true, 1);
        x.type(0, 3, false, false, 2, true, 2);
        x.type(0, 4, false, false, 2, true, 0);
        sealed(x, 0);
        int[][] cases = {
            // package and super of the caller, then whether it may use what is private, package, protected, public
            {0, NONE, 0, 0, 0, 1}, {1, NONE, 0, 1, 1, 1}, {2, NONE, 0, 0, 0, 1}, {3, NONE, 0, 0, 0, 1},
            {4, NONE, 0, 0, 0, 1}, {4, 1, 0, 0, 1, 1}, {4, 2, 0, 0, 1, 1}, {4, 3, 0, 0, 1, 1}, {4, 0, 0, 0, 0, 1},
            {4, 4, 0, 0, 0, 1}, {1, 1, 0, 1, 1, 1}, {1, 0, 0, 1, 1, 1},
        };
        for (int[] row : cases) {
            int caller = x.caller(0, row[0], row[1]);
            for (int a = PRIVATE; a <= PUBLIC; a++) {
                int access = a;
                due("14: access " + a + " of package " + row[0] + ", super " + row[1], row[2 + a],
                        () -> bit(x.use(caller, 1, 3, access, 0, 0) != NO_USE));
            }
        }
    }

    private static void thePackageOfTheTypeThatHasItCounts() {
        LinkArchive x = withEdition();
        x.type(0, 0, false, false, 0, false, NONE);
        x.member(0, 0, FIELD, 0, 0, PACKAGE, true, 0);
        x.member(0, 0, FIELD, 1, 0, PUBLIC, true, 0);
        x.type(0, 1, false, false, 1, true, 0);
        sealed(x, 0);
        x.caller(0, 0, NONE);
        x.caller(0, 1, NONE);
        due("14: of its own package, by a type of another", 0, () -> x.use(0, 1, 1, 0, 0, 0));
        due("14: not of the package of the type it is used by", NO_USE, () -> x.use(1, 1, 1, 0, 0, 0));
        due("14: a public one, of a type that is not, by one that is", 0, () -> x.use(1, 1, 1, 1, 0, 0));
        due("14: and not by the one that is not", NO_USE, () -> x.use(1, 1, 0, 1, 0, 0));
    }

    private static void aSuperMustBeThere() {
        LinkArchive x = withEdition();
        plain(x, 0, 1, NONE);
        x.member(0, 1, FIELD, 0, 0, PROTECTED, true, 0);
        plain(x, 0, 2, 1);
        sealed(x, 0);
        x.caller(0, 4, 2);
        x.use(0, 1, 1, 0, 0, 0);
        x.copy(0);
        x.drop(1, 2, WHOLE_TYPE, 0, 0);
        sealed(x, 1);
        foretold("14: a super that is gone", x, 0, 1, 3);
        x.copy(1);
        plain(x, 2, 2, NONE);
        sealed(x, 2);
        foretold("14: one that is no longer below", x, 0, 2, 3);
        x.copy(1);
        face(x, 3, 2);
        sealed(x, 3);
        foretold("14: one that is an interface", x, 0, 3, 3);
        x.copy(1);
        plain(x, 4, 3, 1);
        plain(x, 4, 2, 3);
        sealed(x, 4);
        foretold("14: one that is further below", x, 0, 4, 0);
    }

    private static void receivers() {
        LinkArchive x = callByClass();
        plain(x, 1, 1, NONE);
        method(x, 1, 1, 0, PUBLIC, 1);
        plain(x, 1, 2, NONE);
        method(x, 1, 2, 0, PUBLIC, 1);
        sealed(x, 1);
        foretold("14: 6: neither T nor below it", x, 0, 1, 6);
        for (int e = 2; e < 6; e++) {
            x.edition();
            plain(x, e, 1, e == 2 ? 2 : NONE);
            method(x, e, 1, 0, PUBLIC, 1);
        }
        plain(x, 2, 2, NONE);
        sealed(x, 2);
        foretold("14: 6: above T", x, 0, 2, 6);
        face(x, 3, 2);
        sealed(x, 3);
        foretold("14: 6: no CLASS", x, 0, 3, 6);
        x.type(4, 2, false, true, 0, true, 1);
        sealed(x, 4);
        foretold("14: 6: ABSTRACT", x, 0, 4, 6);
        x.type(5, 2, false, false, 3, false, 1);
        method(x, 5, 2, 0, PUBLIC, 1);
        sealed(x, 5);
        foretold("14: 0: it need not be PUBLIC", x, 0, 5, 0);
        LinkArchive y = withEdition();
        plain(y, 0, 1, NONE);
        method(y, 0, 1, 0, PUBLIC, 1);
        sealed(y, 0);
        y.caller(0, 4, NONE);
        due("14: T itself", 0, () -> y.use(0, 2, 1, 0, 0, 1));
        y.edition();
        y.type(1, 1, false, true, 0, true, NONE);
        method(y, 1, 1, 0, PUBLIC, 1);
        sealed(y, 1);
        foretold("14: 6: T itself, ABSTRACT", y, 0, 1, 6);
    }

    private static void foretellsRefuse() {
        LinkArchive x = ownEdition();
        useAllKinds(x, 0);
        x.edition();
        for (int wrong : outside(0, 0)) {
            refused("14: no caller " + wrong, INDEX, () -> x.foretell(wrong, 0, 0));
            refused("15: no caller " + wrong, INDEX, () -> x.runs(wrong, 0, 0));
        }
        for (int wrong : outside(0, 1)) {
            refused("14: no edition " + wrong, INDEX, () -> x.foretell(0, wrong, 0));
            refused("15: no edition " + wrong, INDEX, () -> x.runs(0, wrong, 0));
        }
        for (int wrong : outside(0, 5)) {
            refused("14: no use " + wrong, INDEX, () -> x.foretell(0, 0, wrong));
            refused("14: no use, of an OPEN edition " + wrong, INDEX, () -> x.foretell(0, 1, wrong));
            refused("15: no use " + wrong, INDEX, () -> x.runs(0, 0, wrong));
            refused("15: no use, of an OPEN edition " + wrong, INDEX, () -> x.runs(0, 1, wrong));
        }
        for (int i = 0; i < 6; i++) {
            int use = i;
            refused("14: an OPEN edition, kind " + i, STATE, () -> x.foretell(0, 1, use));
            refused("15: an OPEN edition, kind " + i, STATE, () -> x.runs(0, 1, use));
        }
        refused("14: of no caller an OPEN edition", INDEX, () -> x.foretell(1, 1, 0));
        refused("15: of no caller an OPEN edition", INDEX, () -> x.runs(1, 1, 0));
    }

    // ---- promise 15 ----

    private static void runs() {
        LinkArchive x = ownEdition();
        useAllKinds(x, 0);
        ran("15: its own edition", x, 0, NONE, NONE, 1, 1, 3, NONE);
        x.copy(0);
        method(x, 1, 2, 0, PUBLIC, 1);
        x.member(1, 2, METHOD, 5, 0, PUBLIC, false, 1);
        sealed(x, 1);
        foretold("15: OTHER", x, 0, 1, 0, 0, 8, 0, 8, 0);
        ran("15: what meets OTHER runs", x, 1, NONE, NONE, 2, 1, 2, NONE);
        x.edition();
        sealed(x, 2);
        ran("15: nothing in an empty edition", x, 2, NONE, NONE, NONE, NONE, NONE, NONE);
        x.copy(0);
        method(x, 3, 2, 0, PUBLIC, ABSTRACT);
        x.member(3, 2, METHOD, 5, 0, PROTECTED, false, 1);
        x.drop(3, 1, METHOD, 1, 0);
        x.member(3, 1, METHOD, 1, 0, PUBLIC, false, 1);
        sealed(x, 3);
        foretold("15: others", x, 0, 3, 0, 0, 5, 4, 3, 0);
        ran("15: what meets another thing does not run", x, 3, NONE, NONE, NONE, NONE, NONE, NONE);
        staticMethodsFoundElsewhere();
    }

    private static void staticMethodsFoundElsewhere() {
        LinkArchive x = withEdition();
        plain(x, 0, 0, NONE);
        x.member(0, 0, METHOD, 0, 0, PUBLIC, true, 1);
        plain(x, 0, 1, 0);
        sealed(x, 0);
        x.caller(0, 4, NONE);
        x.use(0, 3, 1, 0, 0, 0);
        due("15: the type 0 that has it", 0, () -> x.runs(0, 0, 0));
        x.copy(0);
        x.member(1, 1, METHOD, 0, 0, PUBLIC, true, 1);
        sealed(x, 1);
        foretold("15: of another type it is WELL, not OTHER", x, 0, 1, 0);
        due("15: the type that has it there", 1, () -> x.runs(0, 1, 0));
    }

    private static void ran(String what, LinkArchive x, int e, int... want) {
        for (int i = 0; i < want.length; i++) {
            int use = i;
            due(what + ": use " + i, want[i], () -> x.runs(0, e, use));
        }
    }

    // ---- promise 16 ----

    private static void copied() {
        LinkArchive x = withEdition();
        plain(x, 0, 1, NONE);
        x.member(0, 1, CONSTANT, 0, 0, PUBLIC, true, 0);
        x.member(0, 1, CONSTANT, 1, 0, PUBLIC, true, 9);
        x.member(0, 1, FIELD, 2, 0, PUBLIC, true, 5);
        x.member(0, 1, FIELD, 3, 0, PUBLIC, false, 5);
        x.member(0, 1, METHOD, 0, 0, PUBLIC, true, 5);
        x.member(0, 1, METHOD, 1, 0, PUBLIC, false, 5);
        plain(x, 0, 2, 1);
        sealed(x, 0);
        for (int wrong : outside(0, 0)) {
            refused("16: no caller " + wrong, INDEX, () -> x.copied(wrong, 0));
        }
        x.caller(0, 4, NONE);
        refused("16: it has no uses yet", INDEX, () -> x.copied(0, 0));
        x.use(0, 1, 2, 0, 0, 0);
        x.use(0, 1, 2, 1, 0, 0);
        x.use(0, 1, 1, 2, 0, 0);
        x.use(0, 0, 1, 3, 0, 0);
        x.use(0, 3, 1, 0, 0, 0);
        x.use(0, 2, 1, 1, 0, 1);
        x.use(0, 5, 1, 0, 0, 0);
        int[] want = {0, 9, NONE, NONE, NONE, NONE, NONE};
        for (int i = 0; i < want.length; i++) {
            int use = i;
            due("16: use " + i, want[i], () -> x.copied(0, use));
        }
        for (int wrong : outside(0, 6)) {
            refused("16: no use " + wrong, INDEX, () -> x.copied(0, wrong));
        }
        refused("16: no caller", INDEX, () -> x.copied(1, 0));
    }

    // ---- promise 17 ----

    private static void meets() {
        LinkArchive x = ownEdition();
        x.caller(0, 4, NONE);
        useAllKinds(x, 0);
        x.edition();
        for (int wrong : outside(0, 1)) {
            refused("17: no caller " + wrong, INDEX, () -> x.meets(wrong, 0, 0));
            refused("17: no edition " + wrong, INDEX, () -> x.meets(0, wrong, 0));
        }
        refused("17: an OPEN edition", STATE, () -> x.meets(0, 1, 0));
        refused("17: whatever is asked", STATE, () -> x.meets(0, 1, 10));
        refused("17: of a caller without uses too", STATE, () -> x.meets(1, 1, 0));
        refused("17: no caller ahead of OPEN", INDEX, () -> x.meets(2, 1, 0));
        sealed(x, 1);
        for (int wrong : outside(0, 9)) {
            due("17: another number " + wrong, 0, () -> x.meets(0, 0, wrong));
            due("17: another number, of an empty edition " + wrong, 0, () -> x.meets(0, 1, wrong));
        }
        for (int i = 0; i < 10; i++) {
            int what = i;
            due("17: in its own edition " + i, i == 0 ? 6 : 0, () -> x.meets(0, 0, what));
            due("17: in an empty edition " + i, i == 1 ? 6 : 0, () -> x.meets(0, 1, what));
            due("17: of a caller without uses " + i, 0, () -> x.meets(1, 0, what));
        }
    }

    // ---- promise 18 ----

    private static void best() {
        LinkArchive x = ownEdition();
        for (int wrong : outside(0, 0)) {
            refused("18: no caller " + wrong, INDEX, () -> x.best(wrong, true));
            refused("18: nor the newest " + wrong, INDEX, () -> x.best(wrong, false));
        }
        due("18: the one edition there is", 0, () -> x.best(0, true));
        due("18: the newest likewise", 0, () -> x.best(0, false));
        x.edition();
        due("18: an OPEN one is none, though there are no uses", 0, () -> x.best(0, false));
        sealed(x, 1);
        due("18: without uses the greatest sealed number", 1, () -> x.best(0, false));
        due("18: and the least", 0, () -> x.best(0, true));
        due("18: of a caller of edition 1 too", 0, () -> x.best(x.caller(1, 4, NONE), true));
        useAllKinds(x, 0);
        due("18: its own edition alone", 0, () -> x.best(0, false));
        x.copy(0);
        method(x, 2, 2, 0, PUBLIC, 1);
        sealed(x, 2);
        due("18: OTHER is not WELL", 0, () -> x.best(0, false));
        for (int e = 3; e < 8; e++) {
            x.copy(0);
        }
        sealed(x, 5);
        due("18: the greatest that is sealed", 5, () -> x.best(0, false));
        due("18: the least", 0, () -> x.best(0, true));
        sealed(x, 7);
        due("18: the eighth", 7, () -> x.best(0, false));
        x.caller(7, 4, NONE);
        useAllKinds(x, 2);
        due("18: of a caller of the eighth the least", 0, () -> x.best(2, true));
        onlyTheLastIsGood();
    }

    private static void onlyTheLastIsGood() {
        LinkArchive x = new LinkArchive();
        for (int e = 0; e < 8; e++) {
            x.edition();
            if (e == 7) {
                plain(x, e, 0, NONE);
                x.member(e, 0, CONSTANT, 0, 0, PUBLIC, true, 1);
            }
            sealed(x, e);
        }
        x.caller(7, 4, NONE);
        due("18: without uses the first", 0, () -> x.best(0, true));
        x.use(0, 1, 0, 0, 0, 0);
        due("18: OLD is not WELL", 7, () -> x.best(0, true));
        due("18: the newest is the same", 7, () -> x.best(0, false));
    }
}
