import java.util.NoSuchElementException;
import java.util.stream.IntStream;

/** Short ways to build archives and to say what is due, for the tests that are written by hand. */
abstract class ArchiveCalls {
    static final Class<IndexOutOfBoundsException> INDEX = IndexOutOfBoundsException.class;
    static final Class<IllegalStateException> STATE = IllegalStateException.class;
    static final Class<IllegalArgumentException> ARGUMENT = IllegalArgumentException.class;
    static final Class<UnsupportedOperationException> FULL = UnsupportedOperationException.class;
    static final Class<NoSuchElementException> NO_ELEMENT = NoSuchElementException.class;

    static final int NONE = LinkArchive.NONE;
    static final int FIELD = 0;
    static final int METHOD = 1;
    static final int CONSTANT = 2;
    static final int WHOLE_TYPE = 2;

    static final int PRIVATE = 0;
    static final int PACKAGE = 1;
    static final int PROTECTED = 2;
    static final int PUBLIC = 3;
    static final int ABSTRACT = -1;

    private static Check check;

    static void begin(String test) {
        check = new Check(test);
    }

    static void finish() {
        check.finish();
    }

    static void due(String what, long want, Check.Call call) {
        check.due(what, want, call);
    }

    /** A call whose answer is yes or no. */
    interface Question {
        boolean answer();
    }

    static void yes(String what, Question call) {
        check.due(what, 1, () -> bit(call.answer()));
    }

    static void no(String what, Question call) {
        check.due(what, 0, () -> bit(call.answer()));
    }

    static void refused(String what, Class<? extends RuntimeException> want, Check.Call call) {
        check.refused(what, want, call);
    }

    static int bit(boolean answer) {
        return answer ? 1 : 0;
    }

    /** Numbers beside least to most: the next ones, and those that a cast, shift or product could take for them. */
    static int[] outside(int least, int most) {
        int[] wrong = {least - 1, most + 1, least - 2, most + 2, most + 16, 32 + least, 32 + most, 64 + least,
            256 + least, 65536 + least, 1 << 30, (1 << 30) + 1, (1 << 30) + most, Integer.MIN_VALUE,
            Integer.MIN_VALUE + 1, Integer.MIN_VALUE + most, Integer.MAX_VALUE};
        return IntStream.of(wrong).filter(n -> n < least || n > most).toArray();
    }

    static LinkArchive withEdition() {
        LinkArchive x = new LinkArchive();
        x.edition();
        return x;
    }

    /** A public CLASS of package 0 that is not abstract. */
    static void plain(LinkArchive x, int e, int name, int superName) {
        x.type(e, name, false, false, 0, true, superName);
    }

    /** A public INTERFACE of package 0. */
    static void face(LinkArchive x, int e, int name) {
        x.type(e, name, true, false, 0, true, NONE);
    }

    /** A METHOD of an object, of sort 0. */
    static void method(LinkArchive x, int e, int type, int name, int access, int body) {
        x.member(e, type, METHOD, name, 0, access, false, body);
    }

    static void sealed(LinkArchive x, int e) {
        due("seal(" + e + ")", NONE, () -> x.seal(e));
    }

    /** An EDITION with all it can have: ten INTERFACES, each on three others, with three FIELDS and three METHODS. */
    static void fill(LinkArchive x, int e) {
        for (int t = 0; t < 10; t++) {
            face(x, e, t);
            for (int i = 1; i <= 3 && t - i >= 0; i++) {
                x.implement(e, t, t - i);
            }
            for (int m = 0; m < 6; m++) {
                x.member(e, t, m < 3 ? FIELD : METHOD, m, 0, PUBLIC, m < 3, m);
            }
        }
    }

    static void foretold(String what, LinkArchive x, int caller, int e, int... want) {
        for (int i = 0; i < want.length; i++) {
            int use = i;
            due(what + ": use " + i, want[i], () -> x.foretell(caller, e, use));
        }
    }

    static void differences(String what, LinkArchive x, int a, int b, int[]... rows) {
        due(what + ": differ", rows.length, () -> x.differ(a, b));
        for (int i = 0; i < rows.length; i++) {
            for (int column = 0; column < 6; column++) {
                int row = i;
                int cell = column;
                due(what + ": difference " + i + ", " + column, rows[i][column], () -> x.difference(a, b, row, cell));
            }
        }
    }

    /** A DIFFERENCE in all its columns. */
    static int[] row(int... cells) {
        return cells;
    }

    /** A DIFFERENCE of a type itself. */
    static int[] typeRow(int number, int type) {
        return row(number, type, NONE, NONE, NONE, 0);
    }
}
