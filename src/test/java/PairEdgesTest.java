/** The boundary cases of promises 19 to 24: each sentence that names one has a test of its own. */
public final class PairEdgesTest extends ArchiveCalls {
    public static void main(String[] args) {
        begin("PairEdgesTest");
        pairsAreOfSealedEditions();
        emptyAndFullEditions();
        thereIsNoneSuch();
        typesInOneAlone();
        typesThatChanged();
        membersThatChanged();
        theOrderOfTelling();
        moves();
        compatible();
        counts();
        finish();
    }

    /** Two OPEN EDITIONS. */
    private static LinkArchive pair() {
        LinkArchive x = withEdition();
        x.edition();
        return x;
    }

    private static void told(String what, LinkArchive x, int[]... rows) {
        sealed(x, 0);
        sealed(x, 1);
        differences(what, x, 0, 1, rows);
    }

    // ---- promises 19, 20, 21: what is refused ----

    private static void pairsAreOfSealedEditions() {
        LinkArchive x = pair();
        plain(x, 0, 0, NONE);
        sealed(x, 0);
        for (int wrong : outside(0, 1)) {
            refused("19: no first " + wrong, INDEX, () -> x.differ(wrong, 0));
            refused("19: no second " + wrong, INDEX, () -> x.differ(0, wrong));
            refused("19: no second, the first OPEN " + wrong, INDEX, () -> x.differ(1, wrong));
            refused("20: no first " + wrong, INDEX, () -> x.difference(wrong, 0, 9, 9));
            refused("20: no second " + wrong, INDEX, () -> x.difference(0, wrong, 9, 9));
            refused("20: no second, the first OPEN " + wrong, INDEX, () -> x.difference(1, wrong, 9, 9));
            refused("21: no first " + wrong, INDEX, () -> bit(x.compatible(wrong, 0)));
            refused("21: no second " + wrong, INDEX, () -> bit(x.compatible(0, wrong)));
            refused("21: no second, the first OPEN " + wrong, INDEX, () -> bit(x.compatible(1, wrong)));
        }
        int[][] pairs = {{0, 1}, {1, 0}, {1, 1}};
        for (int[] p : pairs) {
            refused("19: one is OPEN", STATE, () -> x.differ(p[0], p[1]));
            refused("20: one is OPEN", STATE, () -> x.difference(p[0], p[1], 0, 0));
            refused("20: one is OPEN, and there is none such", STATE, () -> x.difference(p[0], p[1], -1, 6));
            refused("21: one is OPEN", STATE, () -> bit(x.compatible(p[0], p[1])));
        }
        sealed(x, 1);
        due("19: both are sealed", 1, () -> x.differ(0, 1));
    }

    private static void emptyAndFullEditions() {
        LinkArchive x = pair();
        sealed(x, 0);
        sealed(x, 1);
        differences("19: two empty ones", x, 0, 1);
        differences("19: an empty one and itself", x, 0, 0);
        yes("21: two empty ones", () -> x.compatible(0, 1));
        x.edition();
        fill(x, 2);
        sealed(x, 2);
        differences("19: a full one and itself", x, 2, 2);
        yes("21: a full one and itself", () -> x.compatible(2, 2));
        int[][] gone = new int[10][];
        int[][] came = new int[10][];
        for (int t = 0; t < 10; t++) {
            gone[t] = typeRow(1, t);
            came[t] = typeRow(2, t);
        }
        differences("19: from a full one to an empty one no members are told", x, 2, 0, gone);
        differences("19: nor the other way", x, 0, 2, came);
        yes("21: from an empty one", () -> x.compatible(0, 2));
        no("21: to an empty one", () -> x.compatible(2, 0));
    }

    private static void thereIsNoneSuch() {
        LinkArchive x = pair();
        for (int t = 0; t < 3; t++) {
            plain(x, 0, t, NONE);
        }
        sealed(x, 0);
        sealed(x, 1);
        for (int wrong : outside(0, 2)) {
            refused("20: no difference " + wrong, NO_ELEMENT, () -> x.difference(0, 1, wrong, 0));
            refused("20: of none " + wrong, NO_ELEMENT, () -> x.difference(0, 0, wrong, 0));
        }
        for (int i = 0; i < 3; i++) {
            int row = i;
            due("20: difference " + i, i, () -> x.difference(0, 1, row, 1));
            refused("20: of none " + i, NO_ELEMENT, () -> x.difference(1, 1, row, 0));
        }
        for (int wrong : outside(0, 5)) {
            refused("20: another what " + wrong, NO_ELEMENT, () -> x.difference(0, 1, 0, wrong));
            refused("20: of the last " + wrong, NO_ELEMENT, () -> x.difference(0, 1, 2, wrong));
            refused("20: of none another what " + wrong, NO_ELEMENT, () -> x.difference(0, 1, 3, wrong));
        }
        due("20: what was asked for and refused changes nothing", 3, () -> x.differ(0, 1));
        due("20: nor the other way", 2, () -> x.difference(1, 0, 2, 0));
    }

    // ---- promises 19 and 20: what is told ----

    private static void typesInOneAlone() {
        LinkArchive x = pair();
        plain(x, 0, 0, NONE);
        x.member(0, 0, FIELD, 0, 0, PUBLIC, true, 1);
        face(x, 0, 7);
        plain(x, 1, 15, NONE);
        x.member(1, 15, METHOD, 0, 0, PUBLIC, true, 1);
        told("19: without their members, the least name and the greatest", x,
                typeRow(1, 0), typeRow(1, 7), typeRow(2, 15));
    }

    private static void typesThatChanged() {
        LinkArchive a = pair();
        a.type(0, 0, false, true, 0, true, NONE);
        face(a, 1, 0);
        told("19: 3 alone, of an abstract class", a, typeRow(3, 0));
        LinkArchive b = pair();
        plain(b, 0, 0, NONE);
        face(b, 1, 0);
        told("19: 3 and 4 of one that was not abstract", b, typeRow(3, 0), typeRow(4, 0));
        LinkArchive c = pair();
        plain(c, 0, 0, NONE);
        c.type(1, 0, false, true, 0, true, NONE);
        told("19: 4 alone", c, typeRow(4, 0));
        for (int change = 1; change < 4; change++) {
            LinkArchive d = pair();
            plain(d, 0, 0, NONE);
            d.type(1, 0, false, false, change == 2 ? 0 : 3, change == 1, NONE);
            told("19: 5 once, of the package, of PUBLIC, of both", d, typeRow(5, 0));
        }
        supersThatChanged();
        interfacesThatChanged();
        LinkArchive e = pair();
        plain(e, 0, 0, NONE);
        plain(e, 0, 15, 0);
        face(e, 1, 0);
        e.type(1, 15, true, false, 1, false, NONE);
        e.implement(1, 15, 0);
        told("19: all of a type, in their order", e, typeRow(3, 0), typeRow(4, 0), typeRow(3, 15), typeRow(4, 15),
                typeRow(5, 15), typeRow(6, 15), typeRow(7, 15));
    }

    private static void supersThatChanged() {
        int[][] supers = {{NONE, 0}, {0, NONE}, {0, 1}, {1, 0}, {0, 0}, {NONE, NONE}};
        for (int[] s : supers) {
            LinkArchive x = pair();
            for (int e = 0; e < 2; e++) {
                plain(x, e, 0, NONE);
                plain(x, e, 1, NONE);
                plain(x, e, 2, s[e]);
            }
            int[][] rows = s[0] == s[1] ? new int[0][] : new int[][] {typeRow(6, 2)};
            told("19: super " + s[0] + ", then " + s[1], x, rows);
        }
    }

    private static void interfacesThatChanged() {
        int[][][] cases = {
            {{}, {0}}, {{0}, {}}, {{0}, {15}}, {{0, 15, 1}, {0, 15}}, {{0, 15}, {15, 1}}, {{0, 15, 1}, {1, 15, 2}},
            {{0, 15, 1}, {15, 1, 0}}, {{0, 15}, {15, 0}}, {{}, {}},
        };
        for (int i = 0; i < cases.length; i++) {
            LinkArchive x = pair();
            for (int e = 0; e < 2; e++) {
                for (int name : new int[] {0, 1, 2, 15}) {
                    face(x, e, name);
                }
                plain(x, e, 4, NONE);
                for (int name : cases[i][e]) {
                    x.implement(e, 4, name);
                }
            }
            int[][] rows = i > 5 ? new int[0][] : new int[][] {typeRow(7, 4)};
            told("19: interfaces as a set, case " + i, x, rows);
        }
    }

    private static void membersThatChanged() {
        for (int what = FIELD; what <= CONSTANT; what++) {
            int method = bit(what == METHOD);
            LinkArchive gone = members(new int[] {what, PUBLIC, 1, 0}, null);
            told("19: 8 alone, what " + what, gone, row(8, 0, 15, 3, NONE, method));
            LinkArchive came = members(null, new int[] {what, PUBLIC, 1, 0});
            told("19: 9 alone, what " + what, came, row(9, 0, 15, 3, NONE, method));
            for (int access = PRIVATE; access < PUBLIC; access++) {
                LinkArchive other = members(new int[] {what, access, 1, 0}, new int[] {what, access + 1, 1, 0});
                told("19: 11 alone, what " + what, other, row(11, 0, 15, 3, NONE, method));
            }
            for (int body = 0; body < 9; body += 8) {
                LinkArchive other = members(new int[] {what, PUBLIC, 1, body}, new int[] {what, PUBLIC, 1, body + 1});
                told("19: 13 alone, what " + what, other, row(13, 0, 15, 3, NONE, method));
            }
        }
        for (int what = FIELD; what <= METHOD; what++) {
            LinkArchive other = members(new int[] {what, PUBLIC, 1, 0}, new int[] {what, PUBLIC, 0, 0});
            told("19: 12 alone, what " + what, other, row(12, 0, 15, 3, NONE, what));
            LinkArchive all = members(new int[] {what, PUBLIC, 1, 0}, new int[] {what, PRIVATE, 0, 9});
            told("19: 11, 12 and 13, what " + what, all, row(11, 0, 15, 3, NONE, what), row(12, 0, 15, 3, NONE, what),
                    row(13, 0, 15, 3, NONE, what));
        }
        told("19: 13 of a constant that is none any more", members(new int[] {CONSTANT, PUBLIC, 1, 4},
                new int[] {FIELD, PUBLIC, 1, 4}), row(13, 0, 15, 3, NONE, 0));
        told("19: 13 once of a field that becomes a constant of another value", members(
                new int[] {FIELD, PUBLIC, 1, 4}, new int[] {CONSTANT, PUBLIC, 1, 5}), row(13, 0, 15, 3, NONE, 0));
        told("19: 13 of an abstract method that gets a body", members(new int[] {METHOD, PUBLIC, 0, ABSTRACT},
                new int[] {METHOD, PUBLIC, 0, 0}), row(13, 0, 15, 3, NONE, 1));
        told("19: a field that goes and a method that comes are two", members(new int[] {FIELD, PUBLIC, 1, 4},
                new int[] {METHOD, PUBLIC, 1, 4}), row(8, 0, 15, 3, NONE, 0), row(9, 0, 15, 3, NONE, 1));
        told("19: nothing", members(new int[] {CONSTANT, PRIVATE, 1, 9}, new int[] {CONSTANT, PRIVATE, 1, 9}));
    }

    /** Class 0 in both, with one member 15 of sort 3, each told by what, access, static and body, or none. */
    private static LinkArchive members(int[] first, int[] second) {
        LinkArchive x = pair();
        int[][] both = {first, second};
        for (int e = 0; e < 2; e++) {
            plain(x, e, 0, NONE);
            int[] m = both[e];
            if (m != null) {
                x.member(e, 0, m[0], 15, 3, m[1], m[2] == 1, m[3]);
            }
        }
        return x;
    }

    private static void theOrderOfTelling() {
        LinkArchive x = pair();
        int[] order = {9, 0, 15, 3};
        for (int t : order) {
            plain(x, 0, t, NONE);
        }
        for (int t = 0; t < 16; t += t == 0 ? 3 : 6) {
            plain(x, 1, t, NONE);
            x.member(1, t, METHOD, 0, 0, PUBLIC, true, 1);
        }
        x.member(1, 3, METHOD, 15, 3, PUBLIC, true, 1);
        x.member(1, 3, FIELD, 15, 2, PUBLIC, true, 1);
        x.member(1, 3, FIELD, 15, 0, PUBLIC, true, 1);
        x.member(1, 3, METHOD, 2, 3, PUBLIC, true, 1);
        x.member(1, 3, FIELD, 0, 3, PUBLIC, true, 1);
        told("19: by names of types, fields ahead of methods, names, sorts", x, row(9, 0, 0, 0, NONE, 1),
                row(9, 3, 0, 3, NONE, 0), row(9, 3, 15, 0, NONE, 0), row(9, 3, 15, 2, NONE, 0),
                row(9, 3, 0, 0, NONE, 1), row(9, 3, 2, 3, NONE, 1), row(9, 3, 15, 3, NONE, 1),
                row(9, 9, 0, 0, NONE, 1), row(9, 15, 0, 0, NONE, 1));
    }

    // ---- promises 19 and 20: moves ----

    private static void moves() {
        whoIsAkin();
        whatIsLikeIt();
        theGoalHadNone();
        theTypeHasNoneAnyMore();
        theFirstGoalByNames();
        oneMoveTakesOneMember();
        typesThatGoOrCome();
        aFieldsMoveIsNoMethods();
        manyMoves();
    }

    /** Class 15 with the super that is told; METHOD 15 of sort 3 is in type from of the first, in to of the second. */
    private static LinkArchive moved(int[] supers, int from, int to) {
        LinkArchive x = pair();
        for (int e = 0; e < 2; e++) {
            plain(x, e, 0, NONE);
            plain(x, e, 7, 0);
            plain(x, e, 8, 0);
            plain(x, e, 15, supers[e]);
            x.member(e, e == 0 ? from : to, METHOD, 15, 3, PUBLIC, false, 1);
        }
        return x;
    }

    private static void whoIsAkin() {
        int[] under7 = {7, 7};
        told("20: up to the super", moved(under7, 15, 7), row(10, 15, 15, 3, 7, 1));
        told("20: up to what is above that", moved(under7, 15, 0), row(10, 15, 15, 3, 0, 1));
        told("20: down", moved(under7, 7, 15), row(10, 7, 15, 3, 15, 1));
        told("20: down two", moved(under7, 0, 15), row(10, 0, 15, 3, 15, 1));
        told("20: a sister is not akin", moved(under7, 7, 8), row(8, 7, 15, 3, NONE, 1), row(9, 8, 15, 3, NONE, 1));
        told("20: nor what stands alone", moved(new int[] {NONE, NONE}, 15, 0), row(9, 0, 15, 3, NONE, 1),
                row(8, 15, 15, 3, NONE, 1));
        told("20: above in the first alone", moved(new int[] {7, NONE}, 15, 0), typeRow(6, 15),
                row(10, 15, 15, 3, 0, 1));
        told("20: above in the second alone", moved(new int[] {NONE, 7}, 15, 0), typeRow(6, 15),
                row(10, 15, 15, 3, 0, 1));
        told("20: below in the first alone", moved(new int[] {7, NONE}, 0, 15), row(10, 0, 15, 3, 15, 1),
                typeRow(6, 15));
        told("20: below in the second alone", moved(new int[] {NONE, 7}, 0, 15), row(10, 0, 15, 3, 15, 1),
                typeRow(6, 15));
        told("20: by a sister's super in each", moved(new int[] {7, 8}, 7, 8), row(8, 7, 15, 3, NONE, 1),
                row(9, 8, 15, 3, NONE, 1), typeRow(6, 15));
        LinkArchive x = pair();
        for (int e = 0; e < 2; e++) {
            face(x, e, 1);
            face(x, e, 2);
            x.implement(e, 2, 1);
            plain(x, e, 3, NONE);
            x.implement(e, 3, 2);
        }
        x.member(0, 3, FIELD, 0, 0, PRIVATE, true, 1);
        x.member(1, 1, FIELD, 0, 0, PUBLIC, true, 1);
        told("20: to an interface of an interface", x, row(10, 3, 0, 0, 1, 0));
    }

    /** Class 1 below 0: 1 has a member in the first, 0 in the second: what, name, sort, access, static, body. */
    private static LinkArchive likeness(int[] first, int[] second) {
        LinkArchive x = pair();
        int[][] both = {first, second};
        for (int e = 0; e < 2; e++) {
            plain(x, e, 0, NONE);
            plain(x, e, 1, 0);
            int[] m = both[e];
            x.member(e, e == 0 ? 1 : 0, m[0], m[1], m[2], m[3], m[4] == 1, m[5]);
        }
        return x;
    }

    private static void whatIsLikeIt() {
        int[] method = {METHOD, 5, 2, PUBLIC, 1, 4};
        for (int access = PRIVATE; access <= PUBLIC; access++) {
            told("20: its access may be " + access, likeness(method, new int[] {METHOD, 5, 2, access, 1, 4}),
                    row(10, 1, 5, 2, 0, 1));
        }
        told("20: a field", likeness(new int[] {FIELD, 5, 2, 3, 1, 4}, new int[] {FIELD, 5, 2, 3, 1, 4}),
                row(10, 1, 5, 2, 0, 0));
        told("20: a constant", likeness(new int[] {CONSTANT, 5, 2, 3, 1, 4}, new int[] {CONSTANT, 5, 2, 3, 1, 4}),
                row(10, 1, 5, 2, 0, 0));
        told("20: an abstract one", likeness(new int[] {METHOD, 5, 2, 3, 0, ABSTRACT},
                new int[] {METHOD, 5, 2, 3, 0, ABSTRACT}), row(10, 1, 5, 2, 0, 1));
        int[][] unlike = {{METHOD, 6, 2, 3, 1, 4}, {METHOD, 5, 1, 3, 1, 4}, {METHOD, 5, 2, 3, 0, 4},
            {METHOD, 5, 2, 3, 1, 5}, {METHOD, 5, 2, 3, 0, ABSTRACT}, {FIELD, 5, 2, 3, 1, 4}, {CONSTANT, 5, 2, 3, 1, 4}};
        for (int[] m : unlike) {
            told("20: another one", likeness(method, m), row(9, 0, m[1], m[2], NONE, bit(m[0] == METHOD)),
                    row(8, 1, 5, 2, NONE, 1));
        }
        told("20: a constant and a field", likeness(new int[] {CONSTANT, 5, 2, 3, 1, 4},
                new int[] {FIELD, 5, 2, 3, 1, 4}), row(9, 0, 5, 2, NONE, 0), row(8, 1, 5, 2, NONE, 0));
    }

    private static void theGoalHadNone() {
        LinkArchive x = likeness(new int[] {METHOD, 5, 2, 3, 1, 4}, new int[] {METHOD, 5, 2, 3, 1, 4});
        x.member(0, 0, METHOD, 5, 2, PRIVATE, false, 9);
        told("20: it had one, though unlike", x, row(11, 0, 5, 2, NONE, 1), row(12, 0, 5, 2, NONE, 1),
                row(13, 0, 5, 2, NONE, 1), row(8, 1, 5, 2, NONE, 1));
        LinkArchive y = likeness(new int[] {METHOD, 5, 2, 3, 1, 4}, new int[] {METHOD, 5, 2, 3, 1, 4});
        y.member(0, 0, METHOD, 5, 1, PUBLIC, true, 4);
        y.member(1, 0, METHOD, 5, 1, PUBLIC, true, 4);
        told("20: it had one of another sort", y, row(10, 1, 5, 2, 0, 1));
        LinkArchive z = likeness(new int[] {METHOD, 5, 2, 3, 1, 4}, new int[] {METHOD, 5, 2, 3, 1, 4});
        z.member(0, 0, FIELD, 5, 2, PUBLIC, true, 4);
        told("20: it had a field of that name and sort, which is no method", z, row(8, 0, 5, 2, NONE, 0),
                row(10, 1, 5, 2, 0, 1));
    }

    private static void theTypeHasNoneAnyMore() {
        LinkArchive x = likeness(new int[] {METHOD, 5, 2, 3, 1, 4}, new int[] {METHOD, 5, 2, 3, 1, 4});
        x.member(1, 1, METHOD, 5, 2, PRIVATE, true, 9);
        told("20: one that stays, though it changes, is not moved", x, row(9, 0, 5, 2, NONE, 1),
                row(11, 1, 5, 2, NONE, 1), row(13, 1, 5, 2, NONE, 1));
        LinkArchive y = likeness(new int[] {METHOD, 5, 2, 3, 1, 4}, new int[] {METHOD, 5, 2, 3, 1, 4});
        y.member(1, 1, FIELD, 5, 2, PUBLIC, true, 4);
        told("20: a field in its place is another one", y, row(9, 1, 5, 2, NONE, 0), row(10, 1, 5, 2, 0, 1));
    }

    private static void theFirstGoalByNames() {
        LinkArchive x = pair();
        for (int e = 0; e < 2; e++) {
            plain(x, e, 9, NONE);
            plain(x, e, 5, 9);
            plain(x, e, 15, 5);
            plain(x, e, 0, 5);
        }
        method(x, 0, 5, 0, PUBLIC, 1);
        for (int goal : new int[] {15, 9, 0}) {
            method(x, 1, goal, 0, PUBLIC, 1);
        }
        told("20: the least name, whether above or below, whatever the order", x, row(10, 5, 0, 0, 0, 1),
                row(9, 9, 0, 0, NONE, 1), row(9, 15, 0, 0, NONE, 1));
    }

    private static void oneMoveTakesOneMember() {
        LinkArchive x = pair();
        LinkArchive y = pair();
        for (int e = 0; e < 2; e++) {
            for (LinkArchive z : new LinkArchive[] {x, y}) {
                plain(z, e, 15, NONE);
                plain(z, e, 14, 15);
                for (int t = 0; t < 3; t++) {
                    plain(z, e, t, 14);
                }
            }
        }
        for (int t = 0; t < 3; t++) {
            method(x, 0, t, 0, PUBLIC, 1);
            method(y, 0, t, 0, PUBLIC, 1);
        }
        method(x, 1, 15, 0, PUBLIC, 1);
        told("20: the first takes the one", x, row(10, 0, 0, 0, 15, 1), row(8, 1, 0, 0, NONE, 1),
                row(8, 2, 0, 0, NONE, 1));
        method(y, 1, 15, 0, PUBLIC, 1);
        method(y, 1, 14, 0, PUBLIC, 1);
        told("20: the second the next, the third none", y, row(10, 0, 0, 0, 14, 1), row(10, 1, 0, 0, 15, 1),
                row(8, 2, 0, 0, NONE, 1));
        differences("20: the other way the first goals are taken", y, 1, 0, row(9, 2, 0, 0, NONE, 1),
                row(10, 14, 0, 0, 0, 1), row(10, 15, 0, 0, 1, 1));
    }

    private static void typesThatGoOrCome() {
        LinkArchive gone = pair();
        plain(gone, 0, 0, NONE);
        plain(gone, 0, 15, 0);
        gone.member(0, 15, FIELD, 3, 1, PUBLIC, true, 1);
        gone.member(0, 15, METHOD, 3, 1, PUBLIC, true, 1);
        gone.member(0, 15, METHOD, 4, 1, PUBLIC, true, 1);
        plain(gone, 1, 0, NONE);
        gone.member(1, 0, METHOD, 3, 1, PUBLIC, true, 1);
        gone.member(1, 0, FIELD, 3, 1, PUBLIC, true, 1);
        told("20: of a type that is gone the moves alone, behind its 1", gone, typeRow(1, 15),
                row(10, 15, 3, 1, 0, 0), row(10, 15, 3, 1, 0, 1));
        LinkArchive came = pair();
        plain(came, 0, 15, NONE);
        method(came, 0, 15, 0, PUBLIC, 1);
        plain(came, 1, 0, NONE);
        method(came, 1, 0, 0, PUBLIC, 1);
        method(came, 1, 0, 1, PUBLIC, 1);
        plain(came, 1, 15, 0);
        told("20: to a type that came", came, typeRow(2, 0), typeRow(6, 15), row(10, 15, 0, 0, 0, 1));
        LinkArchive least = pair();
        plain(least, 0, 15, NONE);
        plain(least, 0, 0, 15);
        least.member(0, 0, FIELD, 15, 3, PUBLIC, true, 1);
        least.member(0, 0, METHOD, 15, 3, PUBLIC, true, 1);
        plain(least, 1, 15, NONE);
        least.member(1, 15, FIELD, 15, 3, PUBLIC, true, 1);
        told("20: of the least type the greatest name and sort", least, typeRow(1, 0), row(10, 0, 15, 3, 15, 0));
        LinkArchive both = pair();
        plain(both, 0, 5, NONE);
        method(both, 0, 5, 0, PUBLIC, 1);
        plain(both, 1, 6, NONE);
        method(both, 1, 6, 0, PUBLIC, 1);
        told("20: from one that is gone to one that came: these are never akin", both, typeRow(1, 5), typeRow(2, 6));
    }

    private static void aFieldsMoveIsNoMethods() {
        for (int mover = FIELD; mover <= METHOD; mover++) {
            int other = 1 - mover;
            LinkArchive x = pair();
            for (int e = 0; e < 2; e++) {
                plain(x, e, 0, NONE);
                plain(x, e, 15, 0);
                x.member(e, e == 0 ? 15 : 0, mover, 0, 0, PUBLIC, true, 1);
                x.member(e, e == 0 ? 15 : 0, other, 0, 0, PUBLIC, true, e);
            }
            int[][] rows = new int[3][];
            rows[0] = row(9, 0, 0, 0, NONE, other);
            rows[1 + mover] = row(10, 15, 0, 0, 0, mover);
            rows[1 + other] = row(8, 15, 0, 0, NONE, other);
            told("20: of a field and a method of one name and sort what " + mover + " moves alone", x, rows);
        }
        LinkArchive gone = pair();
        plain(gone, 0, 0, NONE);
        plain(gone, 0, 15, 0);
        gone.member(0, 15, FIELD, 0, 0, PUBLIC, true, 1);
        gone.member(0, 15, METHOD, 0, 0, PUBLIC, true, 1);
        plain(gone, 1, 0, NONE);
        gone.member(1, 0, METHOD, 0, 0, PUBLIC, true, 1);
        told("20: likewise of a type that is gone", gone, typeRow(1, 15), row(10, 15, 0, 0, 0, 1));
    }

    /** Six members of the last name each move up, and six of the first down. */
    private static void manyMoves() {
        LinkArchive x = pair();
        int[][] rows = new int[12][];
        for (int e = 0; e < 2; e++) {
            plain(x, e, 14, NONE);
            plain(x, e, 15, 14);
            for (int m = 0; m < 6; m++) {
                x.member(e, 15 - e, m % 2, m, 3, PUBLIC, true, m);
                x.member(e, 14 + e, m % 2, 15 - m, 0, PUBLIC, true, m);
            }
        }
        for (int m = 0; m < 3; m++) {
            rows[m] = row(10, 14, 11 + 2 * m, 0, 15, 0);
            rows[3 + m] = row(10, 14, 10 + 2 * m, 0, 15, 1);
            rows[6 + m] = row(10, 15, 2 * m, 3, 14, 0);
            rows[9 + m] = row(10, 15, 1 + 2 * m, 3, 14, 1);
        }
        told("20: two types change all that they have", x, rows);
    }

    // ---- promise 21 ----

    private static void compatible() {
        typesWithoutAnyUse();
        newObjectsOfAllPackages();
        membersByAccess();
        membersByShape();
        constantsMayGo();
        theLastMemberOfTheLastType();
        methodsOfReceivers();
        oneReceiverOfSeveral();
        byTheInterfaceAlone();
        whatNoneCanReachMayGo();
        whatATypeHasFromAbove();
    }

    private static void fits(String what, LinkArchive x, boolean due) {
        sealed(x, 0);
        sealed(x, 1);
        due("21: " + what, bit(due), () -> bit(x.compatible(0, 1)));
        due("21: asked again: " + what, bit(due), () -> bit(x.compatible(0, 1)));
        yes("21: the first with itself", () -> x.compatible(0, 0));
        yes("21: the second with itself", () -> x.compatible(1, 1));
    }

    private static void typesWithoutAnyUse() {
        LinkArchive a = pair();
        face(a, 0, 0);
        fits("an empty interface may go", a, true);
        LinkArchive b = pair();
        b.type(0, 0, false, true, 0, true, NONE);
        fits("an empty abstract class may go", b, true);
        LinkArchive c = pair();
        plain(c, 0, 0, NONE);
        fits("a class of which there are objects may not", c, false);
        LinkArchive d = pair();
        d.type(0, 0, false, true, 0, true, NONE);
        method(d, 0, 0, 0, PUBLIC, 1);
        fits("a method that no receiver has may go", d, true);
    }

    private static void newObjectsOfAllPackages() {
        for (int before = 0; before < 5; before++) {
            for (int after = 0; after < 5; after++) {
                LinkArchive x = pair();
                x.type(0, 0, false, false, before % 4, before == 4, NONE);
                x.type(1, 0, false, false, after % 4, after == 4, NONE);
                // 4 stands for PUBLIC, which callers of package 4 see too.
                fits("from " + before + " to " + after, x, before == after || after == 4);
            }
        }
        for (int shape = 0; shape < 3; shape++) {
            LinkArchive x = pair();
            x.type(0, 0, false, false, 3, false, NONE);
            x.type(1, 0, shape == 1, shape == 2, 3, false, NONE);
            fits("a class, then shape " + shape, x, shape == 0);
        }
    }

    private static void membersByAccess() {
        for (int before = PRIVATE; before <= PUBLIC; before++) {
            for (int after = PRIVATE - 1; after <= PUBLIC; after++) {
                LinkArchive x = pair();
                x.type(0, 0, false, true, 3, true, NONE);
                x.member(0, 0, FIELD, 15, 3, before, false, 1);
                x.type(1, 0, false, true, 3, true, NONE);
                if (after >= PRIVATE) {
                    x.member(1, 0, FIELD, 15, 3, after, false, 1);
                }
                boolean kept = after >= before || after >= PACKAGE && before <= PROTECTED;
                // Without a SUPER none but the package sees what is protected.
                fits("access " + before + ", then " + after, x, before == PRIVATE || kept);
            }
        }
    }

    private static void membersByShape() {
        for (int what = FIELD; what <= METHOD; what++) {
            for (int turn = 0; turn < 2; turn++) {
                LinkArchive x = pair();
                for (int e = 0; e < 2; e++) {
                    plain(x, e, 0, NONE);
                    x.member(e, 0, what, 15, 3, PUBLIC, turn == e, e == 0 ? 0 : 9);
                }
                fits("static or not, what " + what, x, false);
                LinkArchive same = pair();
                for (int e = 0; e < 2; e++) {
                    plain(same, e, 0, NONE);
                    same.member(e, 0, what, 15, 3, PUBLIC, turn == 0, e == 0 ? 0 : 9);
                }
                fits("another body, what " + what, same, true);
            }
        }
        LinkArchive moved = pair();
        for (int e = 0; e < 2; e++) {
            plain(moved, e, 0, NONE);
            plain(moved, e, 1, 0);
            moved.member(e, 1 - e, FIELD, 15, 3, PUBLIC, true, 1);
        }
        fits("a field that moves up", moved, true);
        no("21: and one that moves down", () -> moved.compatible(1, 0));
    }

    private static void constantsMayGo() {
        for (int after = -1; after < 6; after++) {
            LinkArchive x = pair();
            face(x, 0, 0);
            x.member(0, 0, CONSTANT, 0, 0, PUBLIC, true, 1);
            if (after >= 0) {
                x.type(1, 0, after == 1, true, 1, after < 3, NONE);
            }
            if (after > 1) {
                x.member(1, 0, after == 2 ? CONSTANT : FIELD, 0, 0, PRIVATE, after != 5, 7);
            }
            fits("a constant is OLD at most, case " + after, x, true);
        }
        LinkArchive x = pair();
        face(x, 0, 0);
        x.member(0, 0, FIELD, 0, 0, PUBLIC, true, 1);
        fits("a field that is none may not go", x, false);
        LinkArchive y = pair();
        face(y, 0, 0);
        face(y, 1, 0);
        y.member(0, 0, FIELD, 0, 0, PUBLIC, true, 1);
        y.member(1, 0, CONSTANT, 0, 0, PUBLIC, true, 2);
        fits("it may become one", y, true);
    }

    private static void theLastMemberOfTheLastType() {
        for (int what = FIELD; what <= METHOD; what++) {
            LinkArchive x = pair();
            fill(x, 0);
            fill(x, 1);
            x.drop(0, 9, METHOD, 5, 0);
            x.drop(1, 9, METHOD, 5, 0);
            x.member(0, 9, what, 15, 3, PUBLIC, true, 1);
            sealed(x, 0);
            sealed(x, 1);
            no("21: the last member of the last type is gone", () -> x.compatible(0, 1));
            yes("21: the other way it comes", () -> x.compatible(1, 0));
        }
    }

    private static void methodsOfReceivers() {
        for (int change = 0; change < 7; change++) {
            LinkArchive x = pair();
            for (int e = 0; e < 2; e++) {
                boolean is = e == 1;
                face(x, e, 0);
                method(x, e, 0, 0, PUBLIC, 1);
                boolean loose = is && change == 1;
                x.type(e, 14, false, true, 0, true, NONE);
                x.type(e, 15, false, false, 0, true, 14);
                if (!loose) {
                    x.implement(e, 14, 0);
                }
                if (is && change == 2) {
                    method(x, e, 14, 0, PUBLIC, ABSTRACT);
                }
                if (is && change == 3) {
                    method(x, e, 14, 0, PROTECTED, 1);
                }
                if (is && change == 4) {
                    method(x, e, 14, 0, PUBLIC, 2);
                }
                if (is && change == 5) {
                    face(x, e, 1);
                    method(x, e, 1, 0, PUBLIC, 1);
                    x.implement(e, 15, 1);
                }
                if (is && change == 6) {
                    method(x, e, 15, 0, PRIVATE, 1);
                }
            }
            // The same, no longer below, abstract, not public, OTHER, two that could run, a private one found.
            fits("change " + change, x, change == 0 || change == 4);
        }
    }

    private static void oneReceiverOfSeveral() {
        for (int broken = 1; broken < 6; broken++) {
            LinkArchive x = pair();
            for (int e = 0; e < 2; e++) {
                x.type(e, 0, false, true, 0, true, NONE);
                method(x, e, 0, 0, PUBLIC, 1);
                for (int t = 1; t < 6; t++) {
                    plain(x, e, t, 0);
                    if (e == 1 && t == broken) {
                        method(x, e, t, 0, PUBLIC, ABSTRACT);
                    }
                }
            }
            fits("receiver " + broken + " of five is abstract in it", x, false);
            yes("21: and the other way it is mended", () -> x.compatible(1, 0));
        }
    }

    private static void byTheInterfaceAlone() {
        LinkArchive x = pair();
        for (int e = 0; e < 2; e++) {
            face(x, e, 0);
            method(x, e, 0, 0, PUBLIC, ABSTRACT);
            x.type(e, 1, false, false, 0, false, NONE);
            x.implement(e, 1, 0);
            method(x, e, 1, 0, e == 0 ? PUBLIC : PROTECTED, 1);
        }
        fits("callers of the package reach it still, but not by the interface", x, false);
        yes("21: and the other way all do", () -> x.compatible(1, 0));
    }

    private static void whatNoneCanReachMayGo() {
        LinkArchive x = pair();
        for (int e = 0; e < 2; e++) {
            x.type(e, 0, false, true, 0, true, NONE);
            plain(x, e, 1, 0);
        }
        method(x, 0, 0, 0, PRIVATE, 1);
        method(x, 0, 1, 1, PRIVATE, 1);
        x.member(0, 1, METHOD, 2, 0, PRIVATE, true, 1);
        x.member(0, 1, FIELD, 2, 0, PRIVATE, true, 1);
        fits("private ones", x, true);
        LinkArchive y = pair();
        y.type(0, 0, false, true, 0, true, NONE);
        method(y, 0, 0, 0, PUBLIC, ABSTRACT);
        plain(y, 0, 1, 0);
        y.type(1, 0, false, true, 0, true, NONE);
        plain(y, 1, 1, 0);
        fits("one that was ABSTRACT for each receiver", y, true);
    }

    private static void whatATypeHasFromAbove() {
        for (int what = FIELD; what <= METHOD; what++) {
            LinkArchive x = pair();
            for (int e = 0; e < 2; e++) {
                x.type(e, 0, false, true, 0, true, NONE);
                x.member(e, 0, what, 0, 0, PUBLIC, true, 1);
                x.type(e, 1, false, true, 0, true, e == 0 ? 0 : NONE);
            }
            fits("by the lower type it is not found any more, what " + what, x, false);
            yes("21: the other way it is", () -> x.compatible(1, 0));
        }
    }

    // ---- promises 22 to 24 ----

    private static void counts() {
        countsOfAnArchive();
        looksAtAnEdition();
        usesOfACaller();
    }

    private static void countsOfAnArchive() {
        LinkArchive x = new LinkArchive();
        for (int wrong : outside(0, 1)) {
            due("22: of an empty archive, another what " + wrong, NONE, () -> x.count(wrong));
        }
        for (int i = 0; i < 8; i++) {
            int many = i;
            due("22: editions", many, () -> x.count(0));
            x.edition();
        }
        due("22: eight editions", 8, () -> x.count(0));
        sealed(x, 7);
        for (int i = 0; i < 12; i++) {
            int many = i;
            due("22: callers", many, () -> x.count(1));
            x.caller(7, 0, NONE);
        }
        due("22: twelve callers", 12, () -> x.count(1));
        for (int wrong : outside(0, 1)) {
            due("22: of a full archive, another what " + wrong, NONE, () -> x.count(wrong));
        }
    }

    private static void looksAtAnEdition() {
        LinkArchive x = pair();
        for (int wrong : outside(0, 1)) {
            for (int what = -1; what < 4; what++) {
                int asked = what;
                refused("23: no edition " + wrong + ", what " + what, INDEX, () -> x.look(wrong, asked));
            }
        }
        for (int wrong : outside(0, 2)) {
            due("23: another what " + wrong, NONE, () -> x.look(0, wrong));
        }
        due("23: OPEN", 0, () -> x.look(0, 0));
        due("23: no types", 0, () -> x.look(0, 1));
        due("23: no members", 0, () -> x.look(0, 2));
        fill(x, 0);
        due("23: ten types", 10, () -> x.look(0, 1));
        due("23: sixty members", 60, () -> x.look(0, 2));
        due("23: none of them in the other", 0, () -> x.look(1, 1));
        sealed(x, 0);
        due("23: sealed", 1, () -> x.look(0, 0));
        for (int wrong : outside(0, 2)) {
            due("23: of a sealed one " + wrong, NONE, () -> x.look(0, wrong));
        }
    }

    private static void usesOfACaller() {
        LinkArchive x = withEdition();
        plain(x, 0, 0, NONE);
        sealed(x, 0);
        x.caller(0, 0, NONE);
        x.caller(0, 0, NONE);
        for (int wrong : outside(0, 1)) {
            refused("24: no caller " + wrong, INDEX, () -> x.uses(wrong));
        }
        for (int i = 0; i < 20; i++) {
            int many = i;
            due("24: how many", many, () -> x.uses(1));
            x.use(1, 5, 0, 0, 0, 0);
        }
        due("24: twenty", 20, () -> x.uses(1));
        due("24: the other has none", 0, () -> x.uses(0));
    }
}
