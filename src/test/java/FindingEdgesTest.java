/** The boundary cases of promises 9 to 11: each sentence that names one has a test of its own. */
public final class FindingEdgesTest extends ArchiveCalls {
    public static void main(String[] args) {
        begin("FindingEdgesTest");
        above();
        findingAtAll();
        findingFields();
        findingMethods();
        selecting();
        finish();
    }

    // ---- promise 9 ----

    private static void above() {
        aboveAsksASealedEdition();
        falseIfOneIsNotThere();
        nothingIsAboveItself();
        aboveGoesAllTheWayUp();
    }

    private static void aboveAsksASealedEdition() {
        LinkArchive x = withEdition();
        plain(x, 0, 0, NONE);
        refused("9: an OPEN one", STATE, () -> bit(x.above(0, 0, 0)));
        sealed(x, 0);
        for (int wrong : outside(0, 0)) {
            refused("9: no edition " + wrong, INDEX, () -> bit(x.above(wrong, 0, 0)));
        }
    }

    private static void falseIfOneIsNotThere() {
        LinkArchive empty = withEdition();
        sealed(empty, 0);
        no("9: in an empty edition", () -> empty.above(0, 0, 1));
        no("9: nor itself", () -> empty.above(0, 0, 0));
        LinkArchive x = withEdition();
        plain(x, 0, 0, NONE);
        plain(x, 0, 15, 0);
        face(x, 0, 14);
        x.implement(0, 15, 14);
        sealed(x, 0);
        yes("9: a super 0", () -> x.above(0, 0, 15));
        yes("9: an interface 14", () -> x.above(0, 14, 15));
        for (int wrong : outside(0, 15)) {
            no("9: upper " + wrong, () -> x.above(0, wrong, 15));
            no("9: lower " + wrong, () -> x.above(0, 0, wrong));
            no("9: both " + wrong, () -> x.above(0, wrong, wrong));
        }
        for (int i = 1; i < 14; i++) {
            int name = i;
            no("9: there is no upper " + i, () -> x.above(0, name, 15));
            no("9: there is no lower " + i, () -> x.above(0, 0, name));
        }
    }

    private static void nothingIsAboveItself() {
        LinkArchive x = withEdition();
        fill(x, 0);
        sealed(x, 0);
        for (int i = 0; i < 10; i++) {
            int name = i;
            no("9: not " + i + " above itself", () -> x.above(0, name, name));
        }
    }

    private static void aboveGoesAllTheWayUp() {
        LinkArchive x = withEdition();
        for (int t = 0; t < 10; t++) {
            plain(x, 0, t, t - 1);
        }
        sealed(x, 0);
        for (int upper = 0; upper < 10; upper++) {
            for (int lower = 0; lower < 10; lower++) {
                int up = upper;
                int low = lower;
                due("9: " + upper + " above " + lower, bit(upper < lower), () -> bit(x.above(0, up, low)));
            }
        }
        LinkArchive y = withEdition();
        face(y, 0, 1);
        face(y, 0, 2);
        y.implement(0, 2, 1);
        plain(y, 0, 3, NONE);
        y.implement(0, 3, 2);
        plain(y, 0, 4, 3);
        sealed(y, 0);
        yes("9: the interface of an interface of a super", () -> y.above(0, 1, 4));
        no("9: and not the other way", () -> y.above(0, 4, 1));
        aboveByMoreWaysThanThereAreTypes();
    }

    private static void aboveByMoreWaysThanThereAreTypes() {
        LinkArchive x = withEdition();
        int[] order = {0, 4, 5, 6, 1, 2, 3, 9};
        for (int name : order) {
            face(x, 0, name);
        }
        for (int t = 1; t < 4; t++) {
            x.implement(0, t, 0);
            x.implement(0, t, 4);
            x.implement(0, t, t == 3 ? 6 : 5);
            x.implement(0, 9, t);
        }
        x.member(0, 6, FIELD, 0, 0, PUBLIC, true, 0);
        method(x, 0, 6, 0, PUBLIC, 1);
        sealed(x, 0);
        for (int i = 0; i < 7; i++) {
            int upper = i;
            yes("9: by many ways " + i, () -> x.above(0, upper, 9));
        }
        due("10: the last way leads to a field too", 6, () -> x.find(0, 9, false, 0, 0));
        due("10: and to a method", 6, () -> x.find(0, 9, true, 0, 0));
    }

    // ---- promise 10 ----

    private static void findingAtAll() {
        LinkArchive x = withEdition();
        plain(x, 0, 0, NONE);
        plain(x, 0, 15, 0);
        x.member(0, 0, FIELD, 0, 0, PUBLIC, false, 0);
        x.member(0, 0, METHOD, 1, 0, PUBLIC, false, 0);
        x.member(0, 0, FIELD, 15, 3, PUBLIC, false, 0);
        x.member(0, 0, METHOD, 15, 3, PUBLIC, false, 0);
        refused("10: an OPEN edition", STATE, () -> x.find(0, 0, false, 0, 0));
        sealed(x, 0);
        for (int wrong : outside(0, 0)) {
            refused("10: no edition " + wrong, INDEX, () -> x.find(wrong, 0, false, 0, 0));
        }
        due("10: the least name and sort", 0, () -> x.find(0, 15, false, 0, 0));
        due("10: the greatest", 0, () -> x.find(0, 15, false, 15, 3));
        due("10: of a method too", 0, () -> x.find(0, 15, true, 15, 3));
        due("10: a method is no field", NONE, () -> x.find(0, 15, false, 1, 0));
        due("10: a field is no method", NONE, () -> x.find(0, 15, true, 0, 0));
        for (int wrong : outside(0, 15)) {
            due("10: a field of type " + wrong, NONE, () -> x.find(0, wrong, false, 0, 0));
            due("10: a method of type " + wrong, NONE, () -> x.find(0, wrong, true, 1, 0));
            due("10: field " + wrong, NONE, () -> x.find(0, 15, false, wrong, 0));
            due("10: method " + wrong, NONE, () -> x.find(0, 15, true, wrong, 0));
            due("10: field " + wrong + " of sort 3", NONE, () -> x.find(0, 15, false, wrong, 3));
        }
        for (int wrong : outside(0, 3)) {
            due("10: a field's sort " + wrong, NONE, () -> x.find(0, 0, false, 0, wrong));
            due("10: a method's sort " + wrong, NONE, () -> x.find(0, 0, true, 1, wrong));
            due("10: the name below with sort " + wrong, NONE, () -> x.find(0, 0, true, 0, wrong));
            due("10: the name above with sort " + wrong, NONE, () -> x.find(0, 0, false, 1, wrong));
        }
        for (int i = 1; i < 15; i++) {
            int name = i;
            due("10: there is no type " + i, NONE, () -> x.find(0, name, false, 0, 0));
        }
        LinkArchive empty = withEdition();
        sealed(empty, 0);
        due("10: in an empty edition", NONE, () -> empty.find(0, 0, false, 0, 0));
        due("10: nor a method", NONE, () -> empty.find(0, 0, true, 0, 0));
    }

    private static void findingFields() {
        LinkArchive x = withEdition();
        for (int t = 0; t < 3; t++) {
            face(x, 0, t);
            x.member(0, t, FIELD, t, 0, PUBLIC, true, 0);
            x.member(0, t, FIELD, 9, 0, PUBLIC, true, 0);
        }
        plain(x, 0, 3, NONE);
        x.member(0, 3, FIELD, 2, 0, PUBLIC, false, 0);
        x.member(0, 3, FIELD, 8, 0, PRIVATE, false, 0);
        x.member(0, 3, FIELD, 9, 0, PUBLIC, false, 0);
        plain(x, 0, 4, 3);
        x.implement(0, 4, 2);
        x.implement(0, 4, 0);
        x.implement(0, 4, 1);
        plain(x, 0, 5, 4);
        x.member(0, 5, FIELD, 9, 0, PRIVATE, false, 0);
        sealed(x, 0);
        due("10: its own one, though private", 5, () -> x.find(0, 5, false, 9, 0));
        due("10: the first of three interfaces", 2, () -> x.find(0, 4, false, 9, 0));
        due("10: the third of them", 1, () -> x.find(0, 4, false, 1, 0));
        due("10: an interface ahead of the super", 2, () -> x.find(0, 4, false, 2, 0));
        due("10: the super at last, though private", 3, () -> x.find(0, 5, false, 8, 0));
        due("10: no type has it", NONE, () -> x.find(0, 5, false, 7, 0));
        due("10: a type without members or anything above", NONE, () -> lone().find(0, 0, false, 0, 0));
        due("10: nor a method", NONE, () -> lone().find(0, 0, true, 0, 0));
    }

    private static LinkArchive lone() {
        LinkArchive x = withEdition();
        plain(x, 0, 0, NONE);
        x.seal(0);
        return x;
    }

    private static void findingMethods() {
        fromAClassItsOwnOrTheNearest();
        candidatesAreNotStatic();
        justOneIsNotAbstract();
        aCandidateAboveAnotherIsNone();
        anInterfacesOwnIsAskedFirst();
        atTheTopOfTen();
    }

    private static void fromAClassItsOwnOrTheNearest() {
        LinkArchive x = withEdition();
        face(x, 0, 9);
        method(x, 0, 9, 0, PUBLIC, 1);
        method(x, 0, 9, 1, PUBLIC, 1);
        plain(x, 0, 0, NONE);
        method(x, 0, 0, 0, PUBLIC, 1);
        x.member(0, 0, METHOD, 1, 0, PRIVATE, true, 1);
        plain(x, 0, 1, 0);
        method(x, 0, 1, 0, PACKAGE, ABSTRACT);
        plain(x, 0, 2, 1);
        x.implement(0, 2, 9);
        sealed(x, 0);
        due("10: its own", 1, () -> x.find(0, 1, true, 0, 0));
        due("10: that of the nearest, though abstract, ahead of an interface's", 1, () -> x.find(0, 2, true, 0, 0));
        due("10: a private static one of a super ahead of an interface's", 0, () -> x.find(0, 2, true, 1, 0));
    }

    private static void candidatesAreNotStatic() {
        LinkArchive x = withEdition();
        face(x, 0, 1);
        face(x, 0, 2);
        x.member(0, 1, METHOD, 0, 0, PUBLIC, true, 1);
        x.member(0, 1, METHOD, 1, 0, PUBLIC, true, 1);
        method(x, 0, 2, 1, PUBLIC, ABSTRACT);
        plain(x, 0, 3, NONE);
        x.implement(0, 3, 1);
        x.implement(0, 3, 2);
        sealed(x, 0);
        due("10: a STATIC one is no candidate", NONE, () -> x.find(0, 3, true, 0, 0));
        due("10: nor does it stand in the way", 2, () -> x.find(0, 3, true, 1, 0));
    }

    private static void justOneIsNotAbstract() {
        int[][] cases = {
            // bodies of interfaces 7, 6 and 5, which came in this order; then where it is found
            {ABSTRACT, ABSTRACT, ABSTRACT, 7}, {ABSTRACT, ABSTRACT, 1, 5}, {ABSTRACT, 1, ABSTRACT, 6},
            {1, ABSTRACT, ABSTRACT, 7}, {ABSTRACT, 1, 1, 7}, {1, 1, ABSTRACT, 7}, {1, 1, 1, 7}, {1, ABSTRACT, 1, 7},
        };
        for (int[] row : cases) {
            LinkArchive x = withEdition();
            for (int i = 0; i < 3; i++) {
                face(x, 0, 7 - i);
                method(x, 0, 7 - i, 0, PUBLIC, row[i]);
            }
            plain(x, 0, 0, NONE);
            face(x, 0, 1);
            for (int i = 5; i <= 7; i++) {
                x.implement(0, 0, i);
                x.implement(0, 1, i);
            }
            sealed(x, 0);
            String bodies = row[0] + ", " + row[1] + ", " + row[2];
            due("10: from a class, bodies " + bodies, row[3], () -> x.find(0, 0, true, 0, 0));
            due("10: from an interface, bodies " + bodies, row[3], () -> x.find(0, 1, true, 0, 0));
        }
    }

    private static void aCandidateAboveAnotherIsNone() {
        LinkArchive x = withEdition();
        face(x, 0, 0);
        face(x, 0, 1);
        face(x, 0, 2);
        face(x, 0, 3);
        x.implement(0, 1, 0);
        x.implement(0, 2, 1);
        method(x, 0, 0, 0, PUBLIC, 1);
        method(x, 0, 2, 0, PUBLIC, ABSTRACT);
        method(x, 0, 3, 0, PUBLIC, ABSTRACT);
        method(x, 0, 0, 1, PUBLIC, 1);
        x.member(0, 2, METHOD, 1, 0, PUBLIC, true, 1);
        plain(x, 0, 4, NONE);
        x.implement(0, 4, 0);
        x.implement(0, 4, 2);
        x.implement(0, 4, 3);
        sealed(x, 0);
        due("10: 0, two above 2, is none, though 4 has it itself", 2, () -> x.find(0, 4, true, 0, 0));
        due("10: one below that is STATIC is no candidate that could stand below", 0, () -> x.find(0, 4, true, 1, 0));
    }

    private static void anInterfacesOwnIsAskedFirst() {
        LinkArchive x = withEdition();
        face(x, 0, 0);
        method(x, 0, 0, 0, PUBLIC, 1);
        method(x, 0, 0, 1, PUBLIC, 1);
        face(x, 0, 1);
        x.implement(0, 1, 0);
        method(x, 0, 1, 0, PUBLIC, ABSTRACT);
        x.member(0, 1, METHOD, 1, 0, PUBLIC, true, 1);
        sealed(x, 0);
        due("10: though it is abstract", 1, () -> x.find(0, 1, true, 0, 0));
        due("10: though it is STATIC", 1, () -> x.find(0, 1, true, 1, 0));
        due("10: one that has nothing above", 0, () -> x.find(0, 0, true, 0, 0));
    }

    private static void atTheTopOfTen() {
        LinkArchive classes = withEdition();
        LinkArchive faces = withEdition();
        for (int t = 0; t < 10; t++) {
            plain(classes, 0, t, t - 1);
            face(faces, 0, t);
            if (t > 0) {
                faces.implement(0, t, t - 1);
            }
        }
        for (LinkArchive x : new LinkArchive[] {classes, faces}) {
            x.member(0, 0, FIELD, 0, 0, PUBLIC, true, 1);
            method(x, 0, 0, 0, PUBLIC, 1);
            sealed(x, 0);
            due("10: a field at the top of ten", 0, () -> x.find(0, 9, false, 0, 0));
            due("10: a method there", 0, () -> x.find(0, 9, true, 0, 0));
            due("10: no field there", NONE, () -> x.find(0, 9, false, 1, 0));
            due("10: no method there", NONE, () -> x.find(0, 9, true, 1, 0));
        }
        due("11: selected at the top of ten", 0, () -> classes.select(0, 0, 0, 0, 9));
    }

    // ---- promise 11 ----

    private static void selecting() {
        selectingAtAll();
        aReceiverOfAClass();
        thatOfThePrivateOne();
        accessAbove1OrOnePackage();
        staticAndPrivateOnesArePassed();
        theCandidatesOfTheReceiver();
        aClassIsNoCandidate();
    }

    private static void selectingAtAll() {
        LinkArchive x = withEdition();
        plain(x, 0, 0, NONE);
        plain(x, 0, 1, 0);
        method(x, 0, 0, 0, PUBLIC, 1);
        method(x, 0, 0, 15, PUBLIC, 1);
        x.member(0, 0, FIELD, 2, 0, PUBLIC, false, 1);
        refused("11: an OPEN edition", STATE, () -> x.select(0, 0, 0, 0, 1));
        sealed(x, 0);
        for (int wrong : outside(0, 0)) {
            refused("11: no edition " + wrong, INDEX, () -> x.select(wrong, 0, 0, 0, 1));
        }
        due("11: its own", 0, () -> x.select(0, 0, 0, 0, 1));
        due("11: the type has it from above alone", NONE, () -> x.select(0, 1, 0, 0, 1));
        due("11: it has a field alone", NONE, () -> x.select(0, 0, 2, 0, 1));
        due("11: none of that name", NONE, () -> x.select(0, 0, 1, 0, 1));
        due("11: none of that sort", NONE, () -> x.select(0, 0, 0, 1, 1));
        for (int wrong : outside(0, 15)) {
            due("11: type " + wrong, NONE, () -> x.select(0, wrong, 0, 0, 1));
            due("11: name " + wrong, NONE, () -> x.select(0, 0, wrong, 0, 1));
            due("11: receiver " + wrong, NONE, () -> x.select(0, 0, 0, 0, wrong));
        }
        for (int wrong : outside(0, 3)) {
            due("11: sort " + wrong, NONE, () -> x.select(0, 0, 0, wrong, 1));
            due("11: of name 15 sort " + wrong, NONE, () -> x.select(0, 0, 15, wrong, 1));
        }
        due("11: there is no such type", NONE, () -> x.select(0, 9, 0, 0, 1));
        LinkArchive empty = withEdition();
        sealed(empty, 0);
        due("11: in an empty edition", NONE, () -> empty.select(0, 0, 0, 0, 0));
    }

    private static void aReceiverOfAClass() {
        LinkArchive x = withEdition();
        face(x, 0, 0);
        method(x, 0, 0, 0, PUBLIC, 1);
        face(x, 0, 1);
        x.implement(0, 1, 0);
        x.type(0, 2, false, true, 0, true, NONE);
        x.implement(0, 2, 0);
        plain(x, 0, 3, NONE);
        method(x, 0, 3, 0, PUBLIC, 1);
        plain(x, 0, 4, NONE);
        sealed(x, 0);
        due("11: the interface itself is no CLASS", NONE, () -> x.select(0, 0, 0, 0, 0));
        due("11: nor one below it", NONE, () -> x.select(0, 0, 0, 0, 1));
        due("11: nor one that is not there", NONE, () -> x.select(0, 0, 0, 0, 9));
        due("11: an ABSTRACT class is one", 0, () -> x.select(0, 0, 0, 0, 2));
        due("11: a class that is not below has its own", 3, () -> x.select(0, 0, 0, 0, 3));
        due("11: or none", NONE, () -> x.select(0, 0, 0, 0, 4));
    }

    private static void thatOfThePrivateOne() {
        LinkArchive x = withEdition();
        plain(x, 0, 0, NONE);
        method(x, 0, 0, 0, PRIVATE, 1);
        plain(x, 0, 1, 0);
        method(x, 0, 1, 0, PUBLIC, 1);
        face(x, 0, 2);
        plain(x, 0, 3, NONE);
        sealed(x, 0);
        due("11: a private one is given, whatever is below", 0, () -> x.select(0, 0, 0, 0, 1));
        due("11: and whatever class the receiver's is", 0, () -> x.select(0, 0, 0, 0, 3));
        due("11: but it must be a CLASS", NONE, () -> x.select(0, 0, 0, 0, 2));
    }

    private static void accessAbove1OrOnePackage() {
        for (int access = PACKAGE; access <= PUBLIC; access++) {
            for (int pack = 0; pack < 2; pack++) {
                LinkArchive x = withEdition();
                plain(x, 0, 0, NONE);
                method(x, 0, 0, 0, access, 1);
                x.type(0, 1, false, false, pack, true, 0);
                method(x, 0, 1, 0, PACKAGE, 1);
                sealed(x, 0);
                due("11: access " + access + " in package " + pack, access > PACKAGE || pack == 0 ? 1 : 0,
                        () -> x.select(0, 0, 0, 0, 1));
                due("11: the one found, of access " + access, 0, () -> x.select(0, 0, 0, 0, 0));
            }
        }
    }

    private static void staticAndPrivateOnesArePassed() {
        LinkArchive x = withEdition();
        plain(x, 0, 0, NONE);
        method(x, 0, 0, 0, PUBLIC, ABSTRACT);
        x.member(0, 0, METHOD, 1, 0, PUBLIC, true, 1);
        plain(x, 0, 1, 0);
        method(x, 0, 1, 0, PRIVATE, 1);
        plain(x, 0, 2, 1);
        x.member(0, 2, METHOD, 0, 0, PUBLIC, true, 1);
        sealed(x, 0);
        due("11: an ABSTRACT one is not", 0, () -> x.select(0, 0, 0, 0, 2));
        due("11: a private one is passed", 0, () -> x.select(0, 0, 0, 0, 1));
        due("11: a STATIC one gives not even itself", NONE, () -> x.select(0, 0, 1, 0, 0));
    }

    private static void theCandidatesOfTheReceiver() {
        int[][] cases = {
            // the bodies of interfaces 1 and 2, whether 2 is below 1, then what is given
            {ABSTRACT, ABSTRACT, 0, NONE}, {1, ABSTRACT, 0, 1}, {ABSTRACT, 1, 0, 2}, {1, 1, 0, NONE},
            {1, ABSTRACT, 1, NONE}, {1, 1, 1, 2},
        };
        for (int[] row : cases) {
            LinkArchive x = withEdition();
            face(x, 0, 1);
            face(x, 0, 2);
            method(x, 0, 1, 0, PUBLIC, row[0]);
            method(x, 0, 2, 0, PUBLIC, row[1]);
            if (row[2] == 1) {
                x.implement(0, 2, 1);
            }
            plain(x, 0, 3, NONE);
            x.implement(0, 3, 1);
            x.implement(0, 3, 2);
            plain(x, 0, 4, 3);
            sealed(x, 0);
            due("11: bodies " + row[0] + ", " + row[1] + ", below " + row[2], row[3], () -> x.select(0, 1, 0, 0, 4));
        }
    }

    private static void aClassIsNoCandidate() {
        LinkArchive x = withEdition();
        plain(x, 0, 0, NONE);
        method(x, 0, 0, 0, PACKAGE, 1);
        x.type(0, 1, false, false, 1, true, NONE);
        method(x, 0, 1, 0, PACKAGE, 1);
        plain(x, 0, 2, 1);
        sealed(x, 0);
        due("11: of the classes none stands for it, and there are no interfaces", NONE, () -> x.select(0, 0, 0, 0, 2));
    }
}
