/** The promises one by one, by hand: ordinary inputs, the edges that the document names, and wrong inputs. */
public final class PromisesTest extends ArchiveCalls {
    private static final int[] WRONG = {-2, -1, 16, 99, Integer.MIN_VALUE, Integer.MAX_VALUE};

    public static void main(String[] args) {
        begin("PromisesTest");
        promise1();
        promise2();
        promise3();
        promise4();
        promise5();
        promise6();
        promise6InInterfaces();
        promise7();
        promise8();
        promise9();
        promise10Fields();
        promise10Methods();
        promise11();
        promise12();
        promise13();
        promise13Access();
        promise14();
        promise14Receivers();
        promise14Constants();
        promise15();
        promise16();
        promise17And18();
        promise19And20Types();
        promise19And20Members();
        promise19And20Moves();
        promise20Edges();
        promise21();
        promise21Receivers();
        promise21Seldom();
        promise22To24();
        aCallThatThrowsChangesNothing();
        fullestArchive();
        finish();
    }

    // ---- the promises ----

    private static void promise1() {
        LinkArchive x = new LinkArchive();
        due("1: editions", 0, () -> x.count(0));
        due("1: callers", 0, () -> x.count(1));
        due("1: NONE", -1, () -> LinkArchive.NONE);
    }

    private static void promise2() {
        LinkArchive x = new LinkArchive();
        for (int i = 0; i < 8; i++) {
            due("2: edition", i, x::edition);
            int e = i;
            due("2: it is open", 0, () -> x.look(e, 0));
            due("2: without types", 0, () -> x.look(e, 1));
        }
        refused("2: a ninth", FULL, x::edition);
        due("2: still 8", 8, () -> x.count(0));
    }

    private static void promise3() {
        LinkArchive x = withEdition();
        refused("3: no such edition", INDEX, () -> x.copy(1));
        refused("3: no such edition", INDEX, () -> x.copy(-1));
        refused("3: an open one", STATE, () -> x.copy(0));
        face(x, 0, 3);
        plain(x, 0, 2, NONE);
        x.type(0, 5, false, true, 3, false, 2);
        x.implement(0, 5, 3);
        x.member(0, 5, CONSTANT, 1, 2, 2, true, 7);
        x.member(0, 5, METHOD, 1, 2, 1, false, -1);
        sealed(x, 0);
        due("3: copy", 1, () -> x.copy(0));
        due("3: the copy is open", 0, () -> x.look(1, 0));
        due("3: its types", 3, () -> x.look(1, 1));
        due("3: its members", 2, () -> x.look(1, 2));
        due("3: the first stays sealed", 1, () -> x.look(0, 0));
        sealed(x, 1);
        due("3: nothing differs", 0, () -> x.differ(0, 1));
        due("3: what is above is the same", 1, () -> bit(x.above(1, 3, 5)));
        due("3: another copy", 2, () -> x.copy(1));
        x.drop(2, 5, METHOD, 1, 2);
        due("3: a copy is its own", 2, () -> x.look(1, 2));
        for (int i = 3; i < 8; i++) {
            x.edition();
        }
        refused("3: full", FULL, () -> x.copy(0));
        refused("3: open ahead of full", STATE, () -> x.copy(2));
        refused("3: no such ahead of full", INDEX, () -> x.copy(8));
    }

    private static void promise4() {
        LinkArchive x = withEdition();
        refused("4: no such edition", INDEX, () -> x.type(1, 99, false, false, 9, true, 99));
        refused("4: no such edition", INDEX, () -> x.type(-1, 0, false, false, 0, true, NONE));
        for (int wrong : WRONG) {
            refused("4: name " + wrong, ARGUMENT, () -> x.type(0, wrong, false, false, 0, true, NONE));
            refused("4: pack " + wrong, ARGUMENT, () -> x.type(0, 0, false, false, wrong, true, NONE));
            if (wrong != NONE) {
                refused("4: super " + wrong, ARGUMENT, () -> x.type(0, 0, false, false, 0, true, wrong));
            }
        }
        refused("4: pack 4", ARGUMENT, () -> x.type(0, 0, false, false, 4, true, NONE));
        refused("4: an interface with a super", ARGUMENT, () -> x.type(0, 0, true, true, 0, true, 1));
        due("4: the greatest numbers", 1, () -> x.type(0, 15, false, false, 3, true, 15));
        refused("4: there is one of the name", ARGUMENT, () -> x.type(0, 15, true, false, 0, true, NONE));
        for (int i = 0; i < 9; i++) {
            int name = i;
            due("4: how many", 2 + i, () -> x.type(0, name, true, false, 0, true, NONE));
        }
        refused("4: an eleventh", FULL, () -> x.type(0, 12, true, false, 0, true, NONE));
        refused("4: wrong ahead of full", ARGUMENT, () -> x.type(0, 15, true, false, 0, true, NONE));
        x.drop(0, 15, 2, 0, 0);
        due("4: room again", 10, () -> x.type(0, 12, true, false, 0, true, NONE));
        sealed(x, 0);
        refused("4: sealed", STATE, () -> x.type(0, 99, true, false, 0, true, NONE));
        x.caller(0, 0, NONE);
        due("4: an interface is abstract whatever is said", NONE, () -> x.use(0, 5, 0, 0, 0, 0));
    }

    private static void promise5() {
        LinkArchive x = withEdition();
        plain(x, 0, 1, NONE);
        face(x, 0, 2);
        refused("5: no such edition", INDEX, () -> x.implement(1, 9, 99));
        refused("5: no such type", ARGUMENT, () -> x.implement(0, 3, 2));
        for (int wrong : WRONG) {
            refused("5: no such type " + wrong, ARGUMENT, () -> x.implement(0, wrong, 2));
            refused("5: no such name " + wrong, ARGUMENT, () -> x.implement(0, 1, wrong));
        }
        due("5: a name that is not there", 1, () -> x.implement(0, 1, 15));
        refused("5: has it already", ARGUMENT, () -> x.implement(0, 1, 15));
        due("5: itself, till it is sealed", 2, () -> x.implement(0, 1, 1));
        due("5: the third", 3, () -> x.implement(0, 1, 2));
        refused("5: a fourth", FULL, () -> x.implement(0, 1, 3));
        refused("5: has it, ahead of full", ARGUMENT, () -> x.implement(0, 1, 2));
        refused("5: no such name, ahead of full", ARGUMENT, () -> x.implement(0, 1, 16));
        x.drop(0, 1, 2, 0, 0);
        plain(x, 0, 1, NONE);
        due("5: a type that comes anew has none", 1, () -> x.implement(0, 1, 2));
        face(x, 0, 4);
        due("5: an interface can have one", 1, () -> x.implement(0, 4, 2));
        sealed(x, 0);
        refused("5: sealed", STATE, () -> x.implement(0, 99, 99));
    }

    private static void promise6() {
        LinkArchive x = withEdition();
        plain(x, 0, 1, NONE);
        refused("6: no such edition", INDEX, () -> x.member(1, 9, 9, 99, 9, 9, false, 99));
        refused("6: no such type", ARGUMENT, () -> x.member(0, 2, FIELD, 0, 0, 3, false, 0));
        for (int wrong : WRONG) {
            refused("6: type " + wrong, ARGUMENT, () -> x.member(0, wrong, FIELD, 0, 0, 3, false, 0));
            refused("6: what " + wrong, ARGUMENT, () -> x.member(0, 1, wrong, 0, 0, 3, false, 0));
            refused("6: name " + wrong, ARGUMENT, () -> x.member(0, 1, FIELD, wrong, 0, 3, false, 0));
            refused("6: sort " + wrong, ARGUMENT, () -> x.member(0, 1, FIELD, 0, wrong, 3, false, 0));
            refused("6: access " + wrong, ARGUMENT, () -> x.member(0, 1, FIELD, 0, 0, wrong, false, 0));
            refused("6: body of a field " + wrong, ARGUMENT, () -> x.member(0, 1, FIELD, 0, 0, 3, false, wrong));
            refused("6: body of a constant " + wrong, ARGUMENT, () -> x.member(0, 1, CONSTANT, 0, 0, 3, true, wrong));
        }
        refused("6: what 3", ARGUMENT, () -> x.member(0, 1, 3, 0, 0, 3, true, 0));
        refused("6: sort 4", ARGUMENT, () -> x.member(0, 1, FIELD, 0, 4, 3, false, 0));
        refused("6: access 4", ARGUMENT, () -> x.member(0, 1, FIELD, 0, 0, 4, false, 0));
        refused("6: body 10", ARGUMENT, () -> x.member(0, 1, METHOD, 0, 0, 3, false, 10));
        refused("6: body -2", ARGUMENT, () -> x.member(0, 1, METHOD, 0, 0, 3, false, -2));
        refused("6: abstract and static", ARGUMENT, () -> x.member(0, 1, METHOD, 0, 0, 3, true, -1));
        refused("6: abstract and private", ARGUMENT, () -> x.member(0, 1, METHOD, 0, 0, 0, false, -1));
        refused("6: a constant of an object", ARGUMENT, () -> x.member(0, 1, CONSTANT, 0, 0, 3, false, 0));
        due("6: a private static method", 1, () -> x.member(0, 1, METHOD, 15, 3, 0, true, 9));
        due("6: a field of the same name and sort", 2, () -> x.member(0, 1, FIELD, 15, 3, 0, false, 0));
        due("6: abstract", 3, () -> x.member(0, 1, METHOD, 15, 2, 1, false, -1));
        due("6: a constant", 4, () -> x.member(0, 1, CONSTANT, 14, 3, 0, true, 9));
        refused("6: a constant is a field", ARGUMENT, () -> x.member(0, 1, FIELD, 14, 3, 3, false, 1));
        refused("6: a field, and a constant", ARGUMENT, () -> x.member(0, 1, CONSTANT, 15, 3, 3, true, 1));
        refused("6: a method twice", ARGUMENT, () -> x.member(0, 1, METHOD, 15, 2, 3, false, 1));
        due("6: the fifth", 5, () -> x.member(0, 1, METHOD, 0, 0, 3, false, 0));
        due("6: the sixth", 6, () -> x.member(0, 1, FIELD, 0, 0, 3, true, 0));
        refused("6: a seventh", FULL, () -> x.member(0, 1, METHOD, 1, 0, 3, false, 0));
        refused("6: there already, ahead of full", ARGUMENT, () -> x.member(0, 1, METHOD, 0, 0, 3, false, 0));
        refused("6: wrong, ahead of full", ARGUMENT, () -> x.member(0, 1, METHOD, 1, 0, 3, true, -1));
        sealed(x, 0);
        refused("6: sealed", STATE, () -> x.member(0, 99, 9, 99, 9, 9, false, 99));
    }

    private static void promise6InInterfaces() {
        LinkArchive x = withEdition();
        face(x, 0, 1);
        for (int a = 0; a < 3; a++) {
            int access = a;
            refused("6: access " + a + " in an interface", ARGUMENT,
                    () -> x.member(0, 1, METHOD, 0, 0, access, false, 1));
            refused("6: a static field likewise", ARGUMENT, () -> x.member(0, 1, FIELD, 0, 0, access, true, 1));
        }
        refused("6: a field of an object in an interface", ARGUMENT,
                () -> x.member(0, 1, FIELD, 0, 0, 3, false, 1));
        due("6: a static field there", 1, () -> x.member(0, 1, FIELD, 0, 0, 3, true, 1));
        due("6: a static method there", 2, () -> x.member(0, 1, METHOD, 0, 0, 3, true, 1));
        due("6: a method with a body there", 3, () -> x.member(0, 1, METHOD, 0, 1, 3, false, 1));
        due("6: an abstract one there", 4, () -> x.member(0, 1, METHOD, 0, 2, 3, false, -1));
        due("6: a constant there", 5, () -> x.member(0, 1, CONSTANT, 0, 1, 3, true, 1));
    }

    private static void promise7() {
        LinkArchive x = withEdition();
        plain(x, 0, 1, NONE);
        plain(x, 0, 2, NONE);
        x.member(0, 1, FIELD, 4, 1, 3, false, 0);
        x.member(0, 1, METHOD, 4, 1, 3, false, 0);
        x.member(0, 1, CONSTANT, 5, 1, 3, true, 0);
        refused("7: no such edition", INDEX, () -> bit(x.drop(1, 1, FIELD, 4, 1)));
        refused("7: no such edition", INDEX, () -> bit(x.drop(-1, 1, FIELD, 4, 1)));
        due("7: no such type", 0, () -> bit(x.drop(0, 3, FIELD, 4, 1)));
        due("7: no such type", 0, () -> bit(x.drop(0, 3, 2, 4, 1)));
        for (int wrong : WRONG) {
            due("7: type " + wrong, 0, () -> bit(x.drop(0, wrong, 2, 4, 1)));
            due("7: what " + wrong, 0, () -> bit(x.drop(0, 1, wrong, 4, 1)));
            due("7: name " + wrong, 0, () -> bit(x.drop(0, 1, FIELD, wrong, 1)));
            due("7: sort " + wrong, 0, () -> bit(x.drop(0, 1, FIELD, 4, wrong)));
        }
        due("7: what 3", 0, () -> bit(x.drop(0, 1, 3, 4, 1)));
        due("7: another sort", 0, () -> bit(x.drop(0, 1, FIELD, 4, 0)));
        due("7: nothing went", 3, () -> x.look(0, 2));
        due("7: a field", 1, () -> bit(x.drop(0, 1, FIELD, 4, 1)));
        due("7: it is gone", 0, () -> bit(x.drop(0, 1, FIELD, 4, 1)));
        due("7: a constant goes as a field", 1, () -> bit(x.drop(0, 1, FIELD, 5, 1)));
        due("7: the method is there still", 1, () -> x.look(0, 2));
        due("7: a method", 1, () -> bit(x.drop(0, 1, METHOD, 4, 1)));
        due("7: none is left", 0, () -> x.look(0, 2));
        due("7: it can come again", 1, () -> x.member(0, 1, METHOD, 4, 1, 3, false, 0));
        due("7: a type with all it has, whatever name and sort", 1, () -> bit(x.drop(0, 1, 2, -5, 77)));
        due("7: one type", 1, () -> x.look(0, 1));
        due("7: no members", 0, () -> x.look(0, 2));
        plain(x, 0, 1, NONE);
        due("7: nor has a type that comes anew any", 0, () -> x.look(0, 2));
        sealed(x, 0);
        due("7: a type that comes anew is empty", NONE, () -> x.find(0, 1, true, 4, 1));
        refused("7: sealed", STATE, () -> bit(x.drop(0, 1, 9, 0, 0)));
        droppingKeepsTheOrder();
    }

    private static void droppingKeepsTheOrder() {
        LinkArchive x = withEdition();
        plain(x, 0, 9, NONE);
        face(x, 0, 8);
        face(x, 0, 7);
        face(x, 0, 6);
        method(x, 0, 7, 0, 3, -1);
        method(x, 0, 6, 0, 3, -1);
        x.drop(0, 9, 2, 0, 0);
        x.drop(0, 8, 2, 0, 0);
        plain(x, 0, 9, NONE);
        x.implement(0, 9, 6);
        x.implement(0, 9, 7);
        sealed(x, 0);
        due("7: types keep their order", 7, () -> x.find(0, 9, true, 0, 0));
    }

    private static void promise8() {
        LinkArchive x = withEdition();
        refused("8: no such edition", INDEX, () -> x.seal(1));
        refused("8: no such edition", INDEX, () -> x.seal(-1));
        plain(x, 0, 7, 7);
        due("8: its own super", 7, () -> x.seal(0));
        plain(x, 0, 3, 9);
        due("8: what is not there comes ahead of what is above itself", 3, () -> x.seal(0));
        face(x, 0, 9);
        due("8: a super that is an interface", 3, () -> x.seal(0));
        x.drop(0, 9, 2, 0, 0);
        plain(x, 0, 9, NONE);
        x.implement(0, 9, 3);
        due("8: an interface that is a class", 9, () -> x.seal(0));
        x.drop(0, 9, 2, 0, 0);
        plain(x, 0, 9, NONE);
        due("8: now the one above itself", 7, () -> x.seal(0));
        due("8: it stays open", 0, () -> x.look(0, 0));
        x.drop(0, 7, 2, 0, 0);
        face(x, 0, 5);
        face(x, 0, 4);
        face(x, 0, 2);
        x.implement(0, 4, 2);
        x.implement(0, 2, 5);
        x.implement(0, 5, 4);
        plain(x, 0, 1, 3);
        x.implement(0, 1, 4);
        due("8: a ring of interfaces, the first of it", 5, () -> x.seal(0));
        x.drop(0, 5, 2, 0, 0);
        due("8: an interface that is not there", 2, () -> x.seal(0));
        face(x, 0, 5);
        sealed(x, 0);
        due("8: sealed", 1, () -> x.look(0, 0));
        refused("8: sealed already", STATE, () -> x.seal(0));
        x.edition();
        due("8: an empty edition", NONE, () -> x.seal(1));
        x.edition();
        plain(x, 2, 4, 5);
        due("8: the first type leans on nothing", 4, () -> x.seal(2));
        sealingAgainForgetsWhatWasAbove();
    }

    private static void sealingAgainForgetsWhatWasAbove() {
        LinkArchive x = withEdition();
        face(x, 0, 1);
        face(x, 0, 2);
        plain(x, 0, 3, NONE);
        x.implement(0, 3, 1);
        x.implement(0, 3, 2);
        x.implement(0, 2, 2);
        x.member(0, 1, FIELD, 0, 0, 3, true, 0);
        x.member(0, 2, FIELD, 0, 0, 3, true, 0);
        due("8: 2 is above itself", 2, () -> x.seal(0));
        x.drop(0, 2, 2, 0, 0);
        face(x, 0, 2);
        x.member(0, 2, FIELD, 0, 0, 3, true, 0);
        x.drop(0, 3, 2, 0, 0);
        plain(x, 0, 3, NONE);
        x.implement(0, 3, 2);
        face(x, 0, 4);
        x.implement(0, 4, 2);
        x.implement(0, 4, 4);
        due("8: 4 is above itself", 4, () -> x.seal(0));
        x.implement(0, 3, 1);
        x.drop(0, 4, 2, 0, 0);
        sealed(x, 0);
        due("8: the order is that of the last sealing", 2, () -> x.find(0, 3, false, 0, 0));
        x.copy(0);
        x.drop(1, 3, 2, 0, 0);
        plain(x, 1, 3, NONE);
        sealed(x, 1);
        due("8: nothing is above it any more", 0, () -> bit(x.above(1, 2, 3)));
    }

    /** 0 over 1 over 2 (classes), 2 has 5, 5 has 4 and 3, 1 has 6 (interfaces); 7 stands alone. */
    private static LinkArchive tree() {
        LinkArchive x = withEdition();
        plain(x, 0, 0, NONE);
        plain(x, 0, 1, 0);
        plain(x, 0, 2, 1);
        for (int i = 3; i < 7; i++) {
            face(x, 0, i);
        }
        x.implement(0, 2, 5);
        x.implement(0, 5, 4);
        x.implement(0, 5, 3);
        x.implement(0, 1, 6);
        plain(x, 0, 7, NONE);
        return x;
    }

    private static void promise9() {
        LinkArchive x = tree();
        refused("9: open", STATE, () -> bit(x.above(0, 0, 2)));
        sealed(x, 0);
        refused("9: no such edition", INDEX, () -> bit(x.above(1, 0, 2)));
        refused("9: no such edition", INDEX, () -> bit(x.above(-1, 0, 2)));
        int[] above2 = {0, 1, 3, 4, 5, 6};
        for (int upper : above2) {
            due("9: above 2: " + upper, 1, () -> bit(x.above(0, upper, 2)));
            due("9: not below 2: " + upper, 0, () -> bit(x.above(0, 2, upper)));
        }
        due("9: not itself", 0, () -> bit(x.above(0, 2, 2)));
        due("9: 5 is not above 1", 0, () -> bit(x.above(0, 5, 1)));
        due("9: 7 has none", 0, () -> bit(x.above(0, 0, 7)));
        for (int wrong : WRONG) {
            due("9: upper " + wrong, 0, () -> bit(x.above(0, wrong, 2)));
            due("9: lower " + wrong, 0, () -> bit(x.above(0, 0, wrong)));
        }
        due("9: one that is not there", 0, () -> bit(x.above(0, 9, 2)));
    }

    private static void promise10Fields() {
        LinkArchive x = tree();
        x.member(0, 0, FIELD, 1, 0, 3, false, 0);
        x.member(0, 1, FIELD, 2, 0, 0, false, 0);
        x.member(0, 3, FIELD, 1, 0, 3, true, 0);
        x.member(0, 4, FIELD, 1, 0, 3, true, 0);
        x.member(0, 6, FIELD, 3, 0, 3, true, 0);
        x.member(0, 0, FIELD, 3, 0, 3, false, 0);
        x.member(0, 2, METHOD, 9, 0, 3, false, 0);
        refused("10: open", STATE, () -> x.find(0, 0, false, 1, 0));
        sealed(x, 0);
        refused("10: no such edition", INDEX, () -> x.find(1, 0, false, 1, 0));
        due("10: its own", 0, () -> x.find(0, 0, false, 1, 0));
        due("10: interfaces ahead of the super, the first of them first", 4, () -> x.find(0, 2, false, 1, 0));
        due("10: of an interface", 4, () -> x.find(0, 5, false, 1, 0));
        due("10: from the super on, a private one too", 1, () -> x.find(0, 2, false, 2, 0));
        due("10: the super's interface ahead of the super's super", 6, () -> x.find(0, 2, false, 3, 0));
        due("10: from 1 on not the interface of 2", 0, () -> x.find(0, 1, false, 1, 0));
        due("10: another sort", NONE, () -> x.find(0, 2, false, 1, 1));
        due("10: a method is no field", NONE, () -> x.find(0, 2, false, 9, 0));
        due("10: nor a field a method", NONE, () -> x.find(0, 2, true, 1, 0));
        due("10: no such type", NONE, () -> x.find(0, 9, false, 1, 0));
        for (int wrong : WRONG) {
            due("10: type " + wrong, NONE, () -> x.find(0, wrong, false, 1, 0));
            due("10: name " + wrong, NONE, () -> x.find(0, 2, false, wrong, 0));
            due("10: sort " + wrong, NONE, () -> x.find(0, 2, false, 1, wrong));
            due("10: a method's name " + wrong, NONE, () -> x.find(0, 2, true, wrong, 0));
        }
        // Name 0 and sort 4 must not be taken for name 1 and sort 0.
        due("10: sort 4", NONE, () -> x.find(0, 0, false, 0, 4));
    }

    private static void promise10Methods() {
        LinkArchive x = tree();
        method(x, 0, 0, 1, 0, 0);
        method(x, 0, 5, 1, 3, 0);
        method(x, 0, 3, 2, 3, 0);
        method(x, 0, 4, 2, 3, -1);
        method(x, 0, 3, 3, 3, -1);
        method(x, 0, 4, 3, 3, -1);
        method(x, 0, 3, 4, 3, 1);
        method(x, 0, 6, 4, 3, 2);
        x.member(0, 5, METHOD, 5, 0, 3, true, 1);
        method(x, 0, 4, 5, 3, -1);
        method(x, 0, 5, 6, 3, -1);
        method(x, 0, 4, 6, 3, 1);
        sealed(x, 0);
        due("10: a class of the supers, a private one too, ahead of the interfaces", 0, () -> x.find(0, 2, true, 1, 0));
        due("10: the one that is not abstract", 3, () -> x.find(0, 2, true, 2, 0));
        due("10: the first of the types, if all are abstract", 3, () -> x.find(0, 2, true, 3, 0));
        due("10: the first of the types, if two are not", 3, () -> x.find(0, 2, true, 4, 0));
        due("10: an interface's own one, a static one too", 5, () -> x.find(0, 5, true, 5, 0));
        due("10: a static one is no candidate", 4, () -> x.find(0, 2, true, 5, 0));
        due("10: a candidate above another is none", 5, () -> x.find(0, 2, true, 6, 0));
        due("10: from an interface on", 3, () -> x.find(0, 5, true, 2, 0));
        due("10: not from below", NONE, () -> x.find(0, 0, true, 2, 0));
        LinkArchive y = withEdition();
        face(y, 0, 0);
        plain(y, 0, 1, NONE);
        y.implement(0, 1, 0);
        method(y, 0, 0, 0, 3, -1);
        sealed(y, 0);
        due("10: a candidate of the name 0", 0, () -> y.find(0, 1, true, 0, 0));
        LinkArchive z = withEdition();
        for (int i = 0; i < 10; i++) {
            plain(z, 0, i, i - 1);
        }
        method(z, 0, 0, 0, 3, 1);
        z.member(0, 0, FIELD, 0, 0, 3, true, 1);
        sealed(z, 0);
        due("10: a method at the top of ten", 0, () -> z.find(0, 9, true, 0, 0));
        due("10: a field at the top of ten", 0, () -> z.find(0, 9, false, 0, 0));
        due("10: nothing at the top of ten", NONE, () -> z.find(0, 9, true, 1, 0));
        due("10: no field at the top of ten", NONE, () -> z.find(0, 9, false, 1, 0));
        due("11: selected at the top of ten", 0, () -> z.select(0, 0, 0, 0, 9));
    }

    private static void promise11() {
        LinkArchive x = new LinkArchive();
        x.edition();
        plain(x, 0, 0, NONE);
        x.type(0, 1, false, false, 1, true, 0);
        x.type(0, 2, false, true, 0, true, 1);
        face(x, 0, 3);
        face(x, 0, 4);
        x.implement(0, 2, 3);
        x.implement(0, 2, 4);
        method(x, 0, 0, 0, 1, 0);
        method(x, 0, 1, 0, 1, 1);
        method(x, 0, 1, 1, 2, 1);
        x.member(0, 2, METHOD, 1, 0, 3, true, 1);
        method(x, 0, 0, 2, 0, 1);
        method(x, 0, 2, 2, 3, 1);
        method(x, 0, 3, 3, 3, 1);
        method(x, 0, 4, 3, 3, -1);
        method(x, 0, 3, 4, 3, 1);
        method(x, 0, 4, 4, 3, 2);
        method(x, 0, 0, 5, 3, 1);
        method(x, 0, 2, 5, 2, -1);
        method(x, 0, 3, 2, 3, 1);
        x.member(0, 0, METHOD, 6, 0, 3, true, 1);
        x.member(0, 0, METHOD, 7, 0, 0, true, 1);
        method(x, 0, 1, 5, 1, 2);
        x.type(0, 5, false, false, 1, true, NONE);
        plain(x, 0, 6, 5);
        method(x, 0, 5, 0, 1, 1);
        refused("11: open", STATE, () -> x.select(0, 0, 0, 0, 2));
        sealed(x, 0);
        refused("11: no such edition", INDEX, () -> x.select(1, 0, 0, 0, 2));
        due("11: package: not one of another package, but the one found", 0, () -> x.select(0, 0, 0, 0, 1));
        due("11: the one found itself", 1, () -> x.select(0, 1, 0, 0, 2));
        due("11: protected, past a static one", 1, () -> x.select(0, 1, 1, 0, 2));
        due("11: a private one is given itself", 0, () -> x.select(0, 0, 2, 0, 2));
        due("11: a private one on the way is none", 2, () -> x.select(0, 3, 2, 0, 2));
        due("11: none of the classes, one of the candidates", 3, () -> x.select(0, 4, 3, 0, 2));
        due("11: two candidates with a body", NONE, () -> x.select(0, 3, 4, 0, 2));
        due("11: an abstract one can be given", 2, () -> x.select(0, 0, 5, 0, 2));
        due("11: of a public one, one of another package", 1, () -> x.select(0, 0, 5, 0, 1));
        due("11: upwards from the receiver alone", 0, () -> x.select(0, 0, 5, 0, 0));
        due("11: a class is no candidate", NONE, () -> x.select(0, 0, 0, 0, 6));
        due("11: no candidates", NONE, () -> x.select(0, 3, 3, 0, 1));
        due("11: a static one gives none", NONE, () -> x.select(0, 0, 6, 0, 0));
        due("11: a private static one gives itself", 0, () -> x.select(0, 0, 7, 0, 0));
        due("11: the type has it not itself", NONE, () -> x.select(0, 1, 4, 0, 2));
        due("11: a receiver that is an interface", NONE, () -> x.select(0, 3, 3, 0, 4));
        due("11: likewise of a private one", NONE, () -> x.select(0, 0, 2, 0, 3));
        due("11: a receiver that is not there", NONE, () -> x.select(0, 0, 2, 0, 9));
        for (int wrong : WRONG) {
            due("11: type " + wrong, NONE, () -> x.select(0, wrong, 5, 0, 2));
            due("11: name " + wrong, NONE, () -> x.select(0, 0, wrong, 0, 2));
            due("11: sort " + wrong, NONE, () -> x.select(0, 0, 5, wrong, 2));
            due("11: receiver " + wrong, NONE, () -> x.select(0, 0, 5, 0, wrong));
        }
    }

    private static void promise12() {
        LinkArchive x = withEdition();
        plain(x, 0, 1, NONE);
        face(x, 0, 2);
        refused("12: open", STATE, () -> x.caller(0, 9, 9));
        sealed(x, 0);
        refused("12: no such edition", INDEX, () -> x.caller(1, 9, 9));
        refused("12: no such edition", INDEX, () -> x.caller(-1, 0, NONE));
        for (int wrong : WRONG) {
            refused("12: pack " + wrong, ARGUMENT, () -> x.caller(0, wrong, NONE));
            if (wrong != NONE) {
                refused("12: super " + wrong, ARGUMENT, () -> x.caller(0, 0, wrong));
            }
        }
        refused("12: pack 5", ARGUMENT, () -> x.caller(0, 5, NONE));
        refused("12: a super that is not there", ARGUMENT, () -> x.caller(0, 0, 3));
        refused("12: a super that is an interface", ARGUMENT, () -> x.caller(0, 0, 2));
        for (int i = 0; i < 12; i++) {
            int pack = i % 5;
            int superName = i % 2 == 0 ? NONE : 1;
            due("12: caller", i, () -> x.caller(0, pack, superName));
        }
        refused("12: a thirteenth", FULL, () -> x.caller(0, 0, NONE));
        refused("12: wrong ahead of full", ARGUMENT, () -> x.caller(0, 5, NONE));
        due("12: twelve", 12, () -> x.count(1));
    }

    private static void promise13() {
        LinkArchive x = withEdition();
        plain(x, 0, 1, NONE);
        x.type(0, 2, false, true, 1, false, 1);
        face(x, 0, 3);
        plain(x, 0, 4, 2);
        x.implement(0, 4, 3);
        x.member(0, 1, FIELD, 1, 1, 3, false, 5);
        x.member(0, 1, FIELD, 2, 1, 3, true, 5);
        method(x, 0, 1, 3, 3, 5);
        x.member(0, 1, METHOD, 4, 0, 3, true, 5);
        method(x, 0, 3, 5, 3, 1);
        method(x, 0, 3, 6, 3, -1);
        x.member(0, 3, METHOD, 7, 0, 3, true, 1);
        refused("13: no such caller", INDEX, () -> x.use(0, 9, 0, 0, 0, 0));
        sealed(x, 0);
        x.caller(0, 0, NONE);
        refused("13: no such caller", INDEX, () -> x.use(-1, 0, 0, 0, 0, 0));
        for (int wrong : WRONG) {
            refused("13: kind " + wrong, ARGUMENT, () -> x.use(0, wrong, 1, 1, 1, 0));
            due("13: type " + wrong, NONE, () -> x.use(0, 0, wrong, 1, 1, 0));
            due("13: name " + wrong, NONE, () -> x.use(0, 0, 1, wrong, 1, 0));
            due("13: sort " + wrong, NONE, () -> x.use(0, 0, 1, 1, wrong, 0));
            due("13: receiver " + wrong, NONE, () -> x.use(0, 2, 1, 3, 0, wrong));
        }
        refused("13: kind 6", ARGUMENT, () -> x.use(0, 6, 1, 1, 1, 0));
        due("13: a static field as one of an object", NONE, () -> x.use(0, 0, 1, 2, 1, 0));
        due("13: a field of an object as a static one", NONE, () -> x.use(0, 1, 1, 1, 1, 0));
        due("13: a method of an object as a static one", NONE, () -> x.use(0, 3, 1, 3, 0, 0));
        due("13: a static method as one of an object", NONE, () -> x.use(0, 2, 1, 4, 0, 1));
        due("13: by a class, an interface", NONE, () -> x.use(0, 2, 3, 5, 0, 4));
        due("13: by an interface, a class", NONE, () -> x.use(0, 4, 4, 5, 0, 4));
        due("13: a new object of an abstract class", NONE, () -> x.use(0, 5, 2, 0, 0, 0));
        due("13: a receiver that is abstract", NONE, () -> x.use(0, 2, 1, 3, 0, 2));
        due("13: a receiver that is an interface", NONE, () -> x.use(0, 4, 3, 5, 0, 3));
        due("13: a receiver that is not below", NONE, () -> x.use(0, 4, 3, 5, 0, 1));
        due("13: a receiver above", NONE, () -> x.use(0, 2, 4, 3, 0, 1));
        due("13: an abstract method", NONE, () -> x.use(0, 4, 3, 6, 0, 4));
        due("13: no use came", 0, () -> x.uses(0));
        due("13: kind 0, any receiver", 0, () -> x.use(0, 0, 4, 1, 1, -77));
        due("13: kind 1", 1, () -> x.use(0, 1, 4, 2, 1, 99));
        due("13: kind 2", 2, () -> x.use(0, 2, 1, 3, 0, 4));
        due("13: kind 3", 3, () -> x.use(0, 3, 4, 4, 0, -1));
        due("13: kind 3 of an interface", 4, () -> x.use(0, 3, 3, 7, 0, -1));
        due("13: kind 4", 5, () -> x.use(0, 4, 3, 5, 0, 4));
        due("13: kind 2 of an interface's method by a class", 6, () -> x.use(0, 2, 4, 5, 0, 4));
        due("13: kind 5, any name, sort, receiver", 7, () -> x.use(0, 5, 1, -9, 44, 1000));
        for (int i = 8; i < 20; i++) {
            due("13: the same once more", i, () -> x.use(0, 5, 1, 0, 0, 0));
        }
        refused("13: full", FULL, () -> x.use(0, 5, 1, 0, 0, 0));
        refused("13: wrong ahead of full", ARGUMENT, () -> x.use(0, 6, 1, 0, 0, 0));
        due("13: another caller has its own", NONE + 1, () -> x.use(x.caller(0, 0, NONE), 5, 1, 0, 0, 0));
    }

    private static void promise13Access() {
        LinkArchive x = withEdition();
        x.type(0, 1, false, false, 1, true, NONE);
        x.type(0, 2, false, false, 2, true, 1);
        x.type(0, 3, false, false, 3, false, 2);
        for (int access = 0; access < 4; access++) {
            x.member(0, 1, FIELD, access, 0, access, true, 0);
        }
        sealed(x, 0);
        int[][] mayUse = {
            // package, super, then whether private, package, protected, public
            {1, NONE, 0, 1, 1, 1}, {2, NONE, 0, 0, 0, 1}, {4, NONE, 0, 0, 0, 1},
            {4, 1, 0, 0, 1, 1}, {4, 2, 0, 0, 1, 1}, {0, 3, 0, 0, 1, 1},
        };
        for (int[] row : mayUse) {
            int caller = x.caller(0, row[0], row[1]);
            for (int a = 0; a < 4; a++) {
                int access = a;
                due("13: access " + a + " from package " + row[0] + " with super " + row[1], row[2 + a],
                        () -> bit(x.use(caller, 1, 2, access, 0, 0) != NONE));
            }
            due("13: a type that is not public from " + row[0], bit(row[0] == 3),
                    () -> bit(x.use(caller, 5, 3, 0, 0, 0) != NONE));
        }
        int near = x.caller(0, 3, NONE);
        due("13: a type that is not public, from its package", 0, () -> x.use(near, 5, 3, 0, 0, 0));
        int beside = x.caller(0, 0, NONE);
        due("13: a public member of a type that is not public", NONE, () -> x.use(beside, 1, 3, 3, 0, 0));
    }

    /** Each KIND against editions that lack, hide or bend what it uses. */
    private static void promise14() {
        LinkArchive x = withEdition();
        plain(x, 0, 1, NONE);
        plain(x, 0, 2, 1);
        x.member(0, 1, FIELD, 0, 0, 3, false, 0);
        x.member(0, 1, METHOD, 1, 0, 3, true, 0);
        method(x, 0, 1, 2, 3, 0);
        sealed(x, 0);
        x.caller(0, 2, NONE);
        x.use(0, 0, 2, 0, 0, 0);
        x.use(0, 3, 2, 1, 0, 0);
        x.use(0, 2, 1, 2, 0, 2);
        x.use(0, 5, 2, 0, 0, 0);
        int[] well = {0, 0, 0, 0};
        foretold("14: its own", x, 0, 0, well);
        x.copy(0);
        refused("14: open", STATE, () -> x.foretell(0, 1, 0));
        refused("14: no such use ahead of open", INDEX, () -> x.foretell(0, 1, 4));
        refused("14: no such use", INDEX, () -> x.foretell(0, 0, -1));
        refused("14: no such caller", INDEX, () -> x.foretell(1, 0, 0));
        refused("14: no such edition", INDEX, () -> x.foretell(0, 2, 0));
        refused("14: no such edition", INDEX, () -> x.foretell(0, -1, 0));
        x.drop(1, 2, 2, 0, 0);
        sealed(x, 1);
        foretold("14: 2 is gone", x, 0, 1, 1, 1, 1, 1);
        x.copy(1);
        x.type(2, 2, false, true, 1, false, 1);
        sealed(x, 2);
        foretold("14: 2 is not public", x, 0, 2, 3, 3, 6, 3);
        x.copy(1);
        x.type(3, 2, false, true, 1, true, 1);
        for (int i = 0; i < 3; i++) {
            x.drop(3, 1, i == 0 ? FIELD : METHOD, i, 0);
        }
        sealed(x, 3);
        foretold("14: no members, 2 abstract", x, 0, 3, 2, 2, 2, 5);
        x.copy(3);
        x.member(4, 1, FIELD, 0, 0, 2, true, 0);
        x.member(4, 1, METHOD, 1, 0, 1, false, 0);
        method(x, 4, 1, 2, 0, 0);
        sealed(x, 4);
        foretold("14: out of reach: ahead of static", x, 0, 4, 3, 3, 3, 5);
        x.copy(3);
        x.member(5, 1, FIELD, 0, 0, 3, true, 0);
        x.member(5, 1, METHOD, 1, 0, 3, false, 0);
        x.member(5, 1, METHOD, 2, 0, 3, true, 0);
        sealed(x, 5);
        foretold("14: static or not", x, 0, 5, 4, 4, 4, 5);
        x.edition();
        face(x, 6, 1);
        face(x, 6, 2);
        sealed(x, 6);
        foretold("14: interfaces", x, 0, 6, 2, 2, 6, 5);
    }

    private static void promise14Receivers() {
        LinkArchive x = withEdition();
        face(x, 0, 1);
        method(x, 0, 1, 0, 3, 1);
        plain(x, 0, 2, NONE);
        plain(x, 0, 3, 2);
        x.implement(0, 3, 1);
        method(x, 0, 3, 1, 3, 1);
        method(x, 0, 2, 1, 3, 1);
        sealed(x, 0);
        x.caller(0, 4, NONE);
        x.use(0, 4, 1, 0, 0, 3);
        x.use(0, 2, 2, 1, 0, 3);
        x.copy(0);
        x.member(1, 3, METHOD, 0, 0, 2, false, 1);
        x.drop(1, 3, METHOD, 1, 0);
        sealed(x, 1);
        foretold("14: not public by an interface; by a class another type's", x, 0, 1, 3, 8);
        x.copy(0);
        x.member(2, 2, METHOD, 0, 0, 3, false, 1);
        x.drop(2, 3, METHOD, 1, 0);
        method(x, 2, 3, 1, 2, 9);
        sealed(x, 2);
        foretold("14: a class's one runs; another body is none of this", x, 0, 2, 8, 0);
        x.copy(0);
        x.drop(3, 1, METHOD, 0, 0);
        method(x, 3, 1, 0, 3, -1);
        x.drop(3, 3, METHOD, 1, 0);
        method(x, 3, 3, 1, 3, -1);
        sealed(x, 3);
        foretold("14: abstract", x, 0, 3, 5, 5);
        x.copy(0);
        x.drop(4, 3, 2, 0, 0);
        x.type(4, 3, false, true, 0, true, 2);
        x.implement(4, 3, 1);
        sealed(x, 4);
        foretold("14: an abstract receiver", x, 0, 4, 6, 6);
        x.copy(0);
        x.drop(5, 3, 2, 0, 0);
        plain(x, 5, 3, NONE);
        sealed(x, 5);
        foretold("14: a receiver that is no longer below", x, 0, 5, 6, 6);
        x.copy(0);
        x.drop(6, 3, 2, 0, 0);
        face(x, 6, 3);
        x.implement(6, 3, 1);
        sealed(x, 6);
        foretold("14: a receiver that is an interface", x, 0, 6, 6, 6);
        x.copy(0);
        x.drop(7, 3, 2, 0, 0);
        x.drop(7, 1, METHOD, 0, 0);
        sealed(x, 7);
        foretold("14: no receiver, ahead of no member", x, 0, 7, 1, 1);
    }

    private static void promise14Constants() {
        LinkArchive x = withEdition();
        plain(x, 0, 1, NONE);
        plain(x, 0, 2, 1);
        x.member(0, 1, CONSTANT, 0, 0, 3, true, 4);
        x.member(0, 1, FIELD, 1, 0, 3, true, 4);
        sealed(x, 0);
        x.caller(0, 4, NONE);
        x.use(0, 1, 2, 0, 0, 0);
        x.use(0, 1, 2, 1, 0, 0);
        foretold("14: its own", x, 0, 0, 0, 0);
        x.edition();
        sealed(x, 1);
        foretold("14: no type: the copied one is old", x, 0, 1, 9, 1);
        x.edition();
        x.type(2, 2, false, true, 0, false, NONE);
        x.member(2, 2, CONSTANT, 0, 0, 0, true, 4);
        x.member(2, 2, CONSTANT, 1, 0, 3, true, 4);
        sealed(x, 2);
        foretold("14: nothing is looked for: private, in a type that is not public", x, 0, 2, 0, 3);
        x.copy(0);
        x.drop(3, 1, FIELD, 0, 0);
        x.member(3, 1, FIELD, 0, 0, 3, true, 4);
        x.drop(3, 1, FIELD, 1, 0);
        x.member(3, 1, CONSTANT, 1, 0, 3, true, 9);
        sealed(x, 3);
        foretold("14: no constant any more, and a new one", x, 0, 3, 9, 0);
        x.copy(0);
        x.drop(4, 1, FIELD, 0, 0);
        x.member(4, 1, CONSTANT, 0, 0, 3, true, 5);
        sealed(x, 4);
        foretold("14: another value", x, 0, 4, 9, 0);
        x.copy(0);
        x.drop(5, 1, FIELD, 0, 0);
        x.drop(5, 1, FIELD, 1, 0);
        sealed(x, 5);
        foretold("14: no field", x, 0, 5, 9, 2);
        x.copy(0);
        x.member(6, 2, CONSTANT, 0, 0, 3, true, 3);
        sealed(x, 6);
        foretold("14: another constant is found first", x, 0, 6, 9, 0);
    }

    private static void promise15() {
        LinkArchive x = withEdition();
        face(x, 0, 1);
        plain(x, 0, 2, NONE);
        plain(x, 0, 3, 2);
        x.implement(0, 2, 1);
        method(x, 0, 1, 0, 3, 1);
        method(x, 0, 2, 1, 3, 1);
        x.member(0, 2, METHOD, 2, 0, 3, true, 1);
        x.member(0, 2, FIELD, 0, 0, 3, true, 1);
        sealed(x, 0);
        x.caller(0, 4, NONE);
        x.use(0, 4, 1, 0, 0, 3);
        x.use(0, 2, 3, 1, 0, 3);
        x.use(0, 3, 3, 2, 0, 0);
        x.use(0, 1, 3, 0, 0, 0);
        x.use(0, 5, 3, 0, 0, 0);
        ran("its own", x, 0, 1, 2, 2, NONE, NONE);
        x.copy(0);
        refused("15: open", STATE, () -> x.runs(0, 1, 0));
        refused("15: no such use ahead of open", INDEX, () -> x.runs(0, 1, 5));
        refused("15: no such use", INDEX, () -> x.runs(0, 0, -1));
        refused("15: no such caller", INDEX, () -> x.runs(1, 0, 0));
        refused("15: no such edition", INDEX, () -> x.runs(0, 2, 0));
        method(x, 1, 3, 0, 3, 1);
        method(x, 1, 3, 1, 3, 1);
        x.member(1, 3, METHOD, 2, 0, 3, true, 1);
        sealed(x, 1);
        ran("others", x, 1, 3, 3, 3, NONE, NONE);
        x.copy(0);
        method(x, 2, 3, 0, 2, 1);
        method(x, 2, 3, 1, 3, -1);
        method(x, 2, 3, 2, 3, 1);
        sealed(x, 2);
        ran("nothing", x, 2, NONE, NONE, NONE, NONE, NONE);
    }

    private static void ran(String what, LinkArchive x, int e, int... want) {
        for (int i = 0; i < want.length; i++) {
            int use = i;
            due("15: " + what + ": use " + i, want[i], () -> x.runs(0, e, use));
        }
    }

    private static void promise16() {
        LinkArchive x = withEdition();
        plain(x, 0, 1, NONE);
        plain(x, 0, 2, 1);
        x.member(0, 1, CONSTANT, 0, 0, 3, true, 0);
        x.member(0, 1, CONSTANT, 1, 0, 3, true, 9);
        x.member(0, 1, FIELD, 2, 0, 3, true, 9);
        x.member(0, 1, METHOD, 0, 0, 3, true, 5);
        sealed(x, 0);
        refused("16: no such caller", INDEX, () -> x.copied(0, 0));
        x.caller(0, 4, NONE);
        refused("16: no such use", INDEX, () -> x.copied(0, 0));
        x.use(0, 1, 2, 0, 0, 0);
        x.use(0, 1, 1, 1, 0, 0);
        x.use(0, 1, 2, 2, 0, 0);
        x.use(0, 3, 1, 0, 0, 0);
        x.use(0, 5, 1, 0, 0, 0);
        int[] want = {0, 9, NONE, NONE, NONE};
        for (int i = 0; i < want.length; i++) {
            int use = i;
            due("16: use " + i, want[i], () -> x.copied(0, use));
        }
        refused("16: no such use", INDEX, () -> x.copied(0, 5));
        refused("16: no such use", INDEX, () -> x.copied(0, -1));
        refused("16: no such caller", INDEX, () -> x.copied(1, 0));
    }

    private static void promise17And18() {
        LinkArchive x = withEdition();
        plain(x, 0, 1, NONE);
        x.member(0, 1, CONSTANT, 0, 0, 3, true, 1);
        sealed(x, 0);
        x.copy(0);
        x.member(1, 1, FIELD, 1, 0, 3, false, 0);
        sealed(x, 1);
        x.copy(1);
        x.member(2, 1, FIELD, 2, 0, 3, false, 0);
        sealed(x, 2);
        x.copy(1);
        x.drop(3, 1, FIELD, 0, 0);
        sealed(x, 3);
        x.copy(1);
        x.caller(1, 4, NONE);
        due("17: without uses", 0, () -> x.meets(0, 0, 0));
        due("18: without uses, the oldest", 0, () -> x.best(0, true));
        due("18: without uses, the newest that is sealed", 3, () -> x.best(0, false));
        x.use(0, 0, 1, 1, 0, 0);
        due("18: the oldest", 1, () -> x.best(0, true));
        due("18: the newest", 3, () -> x.best(0, false));
        x.use(0, 1, 1, 0, 0, 0);
        x.use(0, 5, 1, 0, 0, 0);
        due("18: OLD is not WELL", 2, () -> x.best(0, false));
        int[][] want = {{2, 0, 1, 0, 0, 0, 0, 0, 0, 0}, {3, 0, 0, 0, 0, 0, 0, 0, 0, 0},
            {3, 0, 0, 0, 0, 0, 0, 0, 0, 0}, {2, 0, 0, 0, 0, 0, 0, 0, 0, 1}};
        for (int e = 0; e < want.length; e++) {
            for (int what = 0; what < 10; what++) {
                int edition = e;
                int met = what;
                due("17: edition " + e + " gives " + what, want[e][what], () -> x.meets(0, edition, met));
            }
        }
        for (int wrong : new int[] {-1, 10, 99, Integer.MIN_VALUE}) {
            due("17: what " + wrong, 0, () -> x.meets(0, 0, wrong));
        }
        refused("17: no such caller", INDEX, () -> x.meets(1, 4, 0));
        refused("17: no such edition", INDEX, () -> x.meets(0, 5, 0));
        refused("17: open", STATE, () -> x.meets(0, 4, 77));
        refused("18: no such caller", INDEX, () -> x.best(1, true));
        refused("18: no such caller", INDEX, () -> x.best(-1, false));
        for (int i = 5; i < 8; i++) {
            x.copy(1);
            sealed(x, i);
        }
        due("18: the newest of eight", 7, () -> x.best(0, false));
        due("18: the oldest of eight", 1, () -> x.best(0, true));
    }

    private static void promise19And20Types() {
        LinkArchive x = withEdition();
        plain(x, 0, 9, NONE);
        plain(x, 0, 4, 9);
        face(x, 0, 3);
        face(x, 0, 2);
        x.implement(0, 4, 3);
        x.implement(0, 4, 2);
        x.member(0, 4, FIELD, 7, 3, 3, true, 1);
        x.member(0, 9, FIELD, 6, 3, 3, true, 1);
        x.edition();
        refused("19: open", STATE, () -> x.differ(0, 1));
        sealed(x, 0);
        refused("19: the second is open", STATE, () -> x.differ(0, 1));
        refused("19: the first is open", STATE, () -> x.differ(1, 0));
        refused("19: no such edition ahead of open", INDEX, () -> x.differ(1, 2));
        refused("19: no such edition", INDEX, () -> x.differ(-1, 0));
        face(x, 1, 2);
        face(x, 1, 3);
        x.type(1, 9, false, false, 0, true, NONE);
        x.member(1, 9, FIELD, 6, 3, 3, true, 1);
        x.type(1, 4, false, false, 0, true, 9);
        x.implement(1, 4, 2);
        x.implement(1, 4, 3);
        x.member(1, 4, FIELD, 7, 3, 3, true, 1);
        sealed(x, 1);
        differences("19: the order is no difference", x, 0, 1);
        differences("19: nor is an edition from itself", x, 0, 0);
        x.edition();
        face(x, 2, 4);
        x.type(2, 3, true, false, 1, true, NONE);
        x.type(2, 9, false, true, 0, false, NONE);
        face(x, 2, 11);
        x.implement(2, 4, 11);
        sealed(x, 2);
        differences("20: types", x, 0, 2, row(1, 2, NONE, NONE, NONE, 0), row(5, 3, NONE, NONE, NONE, 0),
                row(3, 4, NONE, NONE, NONE, 0), row(4, 4, NONE, NONE, NONE, 0), row(6, 4, NONE, NONE, NONE, 0),
                row(7, 4, NONE, NONE, NONE, 0), row(8, 4, 7, 3, NONE, 0), row(4, 9, NONE, NONE, NONE, 0),
                row(5, 9, NONE, NONE, NONE, 0), row(8, 9, 6, 3, NONE, 0), row(2, 11, NONE, NONE, NONE, 0));
        differences("20: the other way", x, 2, 0, row(2, 2, NONE, NONE, NONE, 0), row(5, 3, NONE, NONE, NONE, 0),
                row(3, 4, NONE, NONE, NONE, 0), row(4, 4, NONE, NONE, NONE, 0), row(6, 4, NONE, NONE, NONE, 0),
                row(7, 4, NONE, NONE, NONE, 0), row(9, 4, 7, 3, NONE, 0), row(4, 9, NONE, NONE, NONE, 0),
                row(5, 9, NONE, NONE, NONE, 0), row(9, 9, 6, 3, NONE, 0), row(1, 11, NONE, NONE, NONE, 0));
    }

    private static void promise19And20Members() {
        LinkArchive x = withEdition();
        plain(x, 0, 1, NONE);
        method(x, 0, 1, 0, 3, 1);
        method(x, 0, 1, 2, 3, 1);
        x.member(0, 1, CONSTANT, 2, 1, 3, true, 1);
        x.member(0, 1, FIELD, 2, 0, 3, false, 1);
        x.member(0, 1, FIELD, 3, 3, 3, true, 1);
        x.member(0, 1, METHOD, 4, 1, 3, false, 1);
        sealed(x, 0);
        x.edition();
        plain(x, 1, 1, NONE);
        method(x, 1, 1, 0, 2, -1);
        x.member(1, 1, METHOD, 2, 0, 0, true, 2);
        x.member(1, 1, FIELD, 2, 1, 3, true, 1);
        x.member(1, 1, FIELD, 2, 2, 3, true, 1);
        x.member(1, 1, FIELD, 3, 3, 3, false, 1);
        x.member(1, 1, METHOD, 4, 0, 3, false, 1);
        sealed(x, 1);
        differences("20: members", x, 0, 1,
                row(8, 1, 2, 0, NONE, 0), row(13, 1, 2, 1, NONE, 0), row(9, 1, 2, 2, NONE, 0),
                row(12, 1, 3, 3, NONE, 0), row(11, 1, 0, 0, NONE, 1), row(13, 1, 0, 0, NONE, 1),
                row(11, 1, 2, 0, NONE, 1), row(12, 1, 2, 0, NONE, 1), row(13, 1, 2, 0, NONE, 1),
                row(9, 1, 4, 0, NONE, 1), row(8, 1, 4, 1, NONE, 1));
        due("20: asked again behind another pair", 11, () -> x.differ(0, 1));
        due("20: the other way", 11, () -> x.differ(1, 0));
        due("20: the other way is told as such", 9, () -> x.difference(1, 0, 0, 0));
    }

    private static void promise19And20Moves() {
        movesUpDownAndOut();
        movesTakeOneAnother();
        whatIsNoMove();
    }

    private static void movesUpDownAndOut() {
        LinkArchive y = withEdition();
        plain(y, 0, 0, NONE);
        plain(y, 0, 1, 0);
        method(y, 0, 1, 0, 3, 1);
        y.member(0, 0, FIELD, 0, 0, 3, true, 1);
        sealed(y, 0);
        y.edition();
        plain(y, 1, 0, NONE);
        method(y, 1, 0, 0, 3, 1);
        plain(y, 1, 2, 0);
        y.member(1, 2, FIELD, 0, 0, 3, true, 1);
        sealed(y, 1);
        differences("20: the least names", y, 0, 1, row(10, 0, 0, 0, 2, 0), row(1, 1, NONE, NONE, NONE, 0),
                row(10, 1, 0, 0, 0, 1), row(2, 2, NONE, NONE, NONE, 0));
        LinkArchive x = withEdition();
        plain(x, 0, 5, NONE);
        plain(x, 0, 6, 5);
        plain(x, 0, 7, 6);
        method(x, 0, 7, 1, 3, 1);
        x.member(0, 5, CONSTANT, 1, 0, 3, true, 2);
        x.member(0, 6, FIELD, 2, 0, 3, false, 3);
        method(x, 0, 6, 3, 2, 4);
        method(x, 0, 6, 4, 2, 4);
        sealed(x, 0);
        x.edition();
        plain(x, 1, 5, NONE);
        plain(x, 1, 7, 5);
        face(x, 1, 8);
        x.implement(1, 7, 8);
        method(x, 1, 8, 1, 3, 1);
        x.member(1, 7, CONSTANT, 1, 0, 0, true, 2);
        x.member(1, 5, FIELD, 2, 0, 1, false, 3);
        method(x, 1, 5, 3, 3, 4);
        sealed(x, 1);
        differences("20: moves down, up out of a type that is gone, and to a new type", x, 0, 1,
                row(10, 5, 1, 0, 7, 0), row(1, 6, NONE, NONE, NONE, 0), row(10, 6, 2, 0, 5, 0),
                row(10, 6, 3, 0, 5, 1), row(6, 7, NONE, NONE, NONE, 0), row(7, 7, NONE, NONE, NONE, 0),
                row(10, 7, 1, 0, 8, 1), row(2, 8, NONE, NONE, NONE, 0));
    }

    private static void movesTakeOneAnother() {
        LinkArchive x = withEdition();
        plain(x, 0, 5, NONE);
        plain(x, 0, 1, 5);
        plain(x, 0, 2, 5);
        plain(x, 0, 3, 5);
        method(x, 0, 2, 0, 3, 1);
        method(x, 0, 3, 0, 3, 1);
        method(x, 0, 5, 7, 3, 1);
        sealed(x, 0);
        x.copy(0);
        x.drop(1, 2, METHOD, 0, 0);
        x.drop(1, 3, METHOD, 0, 0);
        x.drop(1, 5, METHOD, 7, 0);
        method(x, 1, 5, 0, 3, 1);
        method(x, 1, 3, 7, 3, 1);
        method(x, 1, 1, 7, 3, 1);
        sealed(x, 1);
        differences("20: the first takes it; the first by names is taken", x, 0, 1,
                row(10, 2, 0, 0, 5, 1), row(8, 3, 0, 0, NONE, 1), row(9, 3, 7, 0, NONE, 1), row(10, 5, 7, 0, 1, 1));
        differences("20: the other way", x, 1, 0,
                row(10, 1, 7, 0, 5, 1), row(9, 3, 0, 0, NONE, 1), row(8, 3, 7, 0, NONE, 1), row(10, 5, 0, 0, 2, 1));
        x.copy(0);
        x.drop(2, 2, METHOD, 0, 0);
        x.drop(2, 3, METHOD, 0, 0);
        method(x, 2, 5, 0, 3, 1);
        x.drop(2, 1, 2, 0, 0);
        plain(x, 2, 1, 3);
        method(x, 2, 1, 0, 3, 1);
        sealed(x, 2);
        differences("20: a second goal, akin in the second edition alone", x, 0, 2,
                row(6, 1, NONE, NONE, NONE, 0), row(10, 2, 0, 0, 5, 1), row(10, 3, 0, 0, 1, 1));
    }

    private static void whatIsNoMove() {
        LinkArchive x = withEdition();
        plain(x, 0, 1, NONE);
        plain(x, 0, 2, 1);
        plain(x, 0, 3, 1);
        x.member(0, 2, FIELD, 0, 0, 3, true, 1);
        x.member(0, 2, CONSTANT, 1, 0, 3, true, 1);
        x.member(0, 2, METHOD, 2, 0, 3, true, 1);
        x.member(0, 2, METHOD, 3, 0, 3, false, 1);
        x.member(0, 2, FIELD, 4, 0, 3, true, 1);
        x.member(0, 2, METHOD, 5, 0, 3, false, 1);
        x.member(0, 1, METHOD, 5, 0, 3, false, 1);
        sealed(x, 0);
        x.edition();
        plain(x, 1, 1, NONE);
        plain(x, 1, 2, 1);
        plain(x, 1, 3, 1);
        x.member(1, 1, METHOD, 0, 0, 3, true, 1);
        x.member(1, 1, FIELD, 1, 0, 3, true, 1);
        x.member(1, 1, METHOD, 2, 0, 3, false, 1);
        x.member(1, 1, METHOD, 3, 0, 3, false, 2);
        x.member(1, 1, METHOD, 5, 0, 3, false, 1);
        x.member(1, 3, FIELD, 4, 0, 3, true, 1);
        sealed(x, 1);
        differences("20: another kind, constant, static, body; a sister; one that was there", x, 0, 1,
                row(9, 1, 1, 0, NONE, 0), row(9, 1, 0, 0, NONE, 1), row(9, 1, 2, 0, NONE, 1),
                row(9, 1, 3, 0, NONE, 1), row(8, 2, 0, 0, NONE, 0), row(8, 2, 1, 0, NONE, 0),
                row(8, 2, 4, 0, NONE, 0), row(8, 2, 2, 0, NONE, 1), row(8, 2, 3, 0, NONE, 1),
                row(8, 2, 5, 0, NONE, 1), row(9, 3, 4, 0, NONE, 0));
        x.edition();
        plain(x, 2, 1, NONE);
        x.member(2, 1, FIELD, 3, 0, 3, false, 5);
        sealed(x, 2);
        x.edition();
        plain(x, 3, 1, NONE);
        plain(x, 3, 2, 1);
        x.member(3, 2, METHOD, 3, 0, 3, false, 1);
        sealed(x, 3);
        x.edition();
        plain(x, 4, 1, NONE);
        plain(x, 4, 2, 1);
        x.member(4, 1, METHOD, 3, 0, 3, false, 1);
        x.member(4, 1, FIELD, 3, 0, 3, false, 5);
        sealed(x, 4);
        differences("20: a field of the name and sort is no method that was there", x, 3, 4,
                row(9, 1, 3, 0, NONE, 0), row(10, 2, 3, 0, 1, 1));
    }

    private static void promise20Edges() {
        LinkArchive x = withEdition();
        plain(x, 0, 1, NONE);
        refused("20: open", STATE, () -> x.difference(0, 0, 9, 9));
        sealed(x, 0);
        x.edition();
        refused("20: the second is open", STATE, () -> x.difference(0, 1, 9, 9));
        sealed(x, 1);
        refused("20: no such edition", INDEX, () -> x.difference(0, 2, 9, 9));
        refused("20: no such edition", INDEX, () -> x.difference(-1, 0, 9, 9));
        due("20: the one there is", 1, () -> x.difference(0, 1, 0, 0));
        for (int wrong : WRONG) {
            refused("20: i " + wrong, NO_ELEMENT, () -> x.difference(0, 1, wrong, 0));
            refused("20: what " + wrong, NO_ELEMENT, () -> x.difference(0, 1, 0, wrong));
        }
        refused("20: i 1", NO_ELEMENT, () -> x.difference(0, 1, 1, 0));
        refused("20: what 6", NO_ELEMENT, () -> x.difference(0, 1, 0, 6));
        refused("20: of none", NO_ELEMENT, () -> x.difference(1, 1, 0, 0));
    }

    /** Whether an edition like a given one but for one change still fits. */
    private static void promise21() {
        LinkArchive x = withEdition();
        x.type(0, 1, false, false, 1, false, NONE);
        plain(x, 0, 2, NONE);
        x.member(0, 2, FIELD, 0, 0, 2, false, 1);
        x.member(0, 2, CONSTANT, 1, 0, 3, true, 1);
        x.member(0, 2, METHOD, 2, 0, 1, true, 1);
        x.member(0, 2, FIELD, 3, 0, 0, false, 1);
        x.member(0, 1, FIELD, 3, 0, 3, true, 1);
        refused("21: open", STATE, () -> bit(x.compatible(0, 0)));
        sealed(x, 0);
        refused("21: no such edition", INDEX, () -> bit(x.compatible(0, 1)));
        refused("21: no such edition", INDEX, () -> bit(x.compatible(-1, 0)));
        due("21: with itself", 1, () -> bit(x.compatible(0, 0)));
        x.copy(0);
        refused("21: the second is open", STATE, () -> bit(x.compatible(0, 1)));
        x.drop(1, 2, FIELD, 1, 0);
        x.drop(1, 2, FIELD, 3, 0);
        sealed(x, 1);
        due("21: a constant and a private field may go", 1, () -> bit(x.compatible(0, 1)));
        x.copy(0);
        x.drop(2, 2, FIELD, 0, 0);
        x.member(2, 2, FIELD, 0, 0, 1, false, 1);
        sealed(x, 2);
        due("21: protected to package: none without a super sees it", 1, () -> bit(x.compatible(0, 2)));
        x.copy(0);
        x.drop(3, 2, METHOD, 2, 0);
        x.member(3, 2, METHOD, 2, 0, 0, true, 1);
        sealed(x, 3);
        due("21: package to private", 0, () -> bit(x.compatible(0, 3)));
        due("21: the other way", 1, () -> bit(x.compatible(3, 0)));
        x.copy(0);
        x.drop(4, 1, 2, 0, 0);
        x.type(4, 1, false, false, 2, false, NONE);
        x.member(4, 1, FIELD, 3, 0, 3, true, 1);
        sealed(x, 4);
        due("21: a type that moves to another package", 0, () -> bit(x.compatible(0, 4)));
        x.copy(0);
        x.drop(5, 1, 2, 0, 0);
        x.type(5, 1, false, true, 1, true, NONE);
        x.member(5, 1, FIELD, 3, 0, 3, true, 1);
        sealed(x, 5);
        due("21: no new objects any more", 0, () -> bit(x.compatible(0, 5)));
        due("21: public to package, of package 4 too", 0, () -> bit(x.compatible(5, 0)));
        x.edition();
        sealed(x, 6);
        due("21: from nothing", 1, () -> bit(x.compatible(6, 0)));
        due("21: to nothing", 0, () -> bit(x.compatible(0, 6)));
    }

    private static void promise21Receivers() {
        LinkArchive x = withEdition();
        face(x, 0, 1);
        method(x, 0, 1, 0, 3, 1);
        x.type(0, 2, false, true, 0, true, NONE);
        x.implement(0, 2, 1);
        x.type(0, 3, false, false, 0, true, 2);
        sealed(x, 0);
        x.copy(0);
        method(x, 1, 2, 0, 3, 1);
        sealed(x, 1);
        due("21: OTHER is no break", 1, () -> bit(x.compatible(0, 1)));
        due("21: nor the other way", 1, () -> bit(x.compatible(1, 0)));
        x.copy(0);
        method(x, 2, 2, 0, 3, -1);
        sealed(x, 2);
        due("21: abstract for a receiver", 0, () -> bit(x.compatible(0, 2)));
        due("21: the other way nothing was WELL that is not", 1, () -> bit(x.compatible(2, 0)));
        x.copy(0);
        method(x, 3, 2, 0, 2, 1);
        sealed(x, 3);
        due("21: by the interface not public", 0, () -> bit(x.compatible(0, 3)));
        x.copy(0);
        x.drop(4, 3, 2, 0, 0);
        x.type(4, 3, false, false, 0, true, NONE);
        sealed(x, 4);
        due("21: a receiver no longer below", 0, () -> bit(x.compatible(0, 4)));
        x.copy(0);
        x.drop(5, 3, 2, 0, 0);
        sealed(x, 5);
        due("21: a receiver gone", 0, () -> bit(x.compatible(0, 5)));
        due("21: without receivers a method can go", 1, () -> bit(x.compatible(5, methodless(x))));
    }

    private static void promise21Seldom() {
        LinkArchive x = withEdition();
        x.type(0, 3, false, false, 0, false, NONE);
        face(x, 0, 1);
        x.implement(0, 3, 1);
        method(x, 0, 1, 0, 3, -1);
        method(x, 0, 3, 0, 3, 1);
        sealed(x, 0);
        x.copy(0);
        x.drop(1, 3, METHOD, 0, 0);
        method(x, 1, 3, 0, 2, 1);
        sealed(x, 1);
        due("21: by the interface alone it breaks", 0, () -> bit(x.compatible(0, 1)));
        due("21: and the other way not", 1, () -> bit(x.compatible(1, 0)));
        x.edition();
        x.type(2, 0, false, true, 0, true, NONE);
        x.type(2, 1, false, true, 0, true, 0);
        x.member(2, 0, FIELD, 0, 0, 3, true, 1);
        x.member(2, 0, FIELD, 1, 0, 2, true, 1);
        method(x, 2, 0, 2, 0, 1);
        plain(x, 2, 4, 0);
        sealed(x, 2);
        x.copy(2);
        x.drop(3, 1, 2, 0, 0);
        x.type(3, 1, false, true, 0, true, NONE);
        sealed(x, 3);
        due("21: what a type had from above", 0, () -> bit(x.compatible(2, 3)));
        x.copy(2);
        x.drop(4, 0, METHOD, 2, 0);
        x.drop(4, 0, FIELD, 1, 0);
        x.member(4, 0, FIELD, 1, 0, 1, true, 1);
        sealed(x, 4);
        due("21: a private method may go, a protected field become of the package", 1,
                () -> bit(x.compatible(2, 4)));
    }

    /** An edition in which the types are left, but not the method that no receiver could run. */
    private static int methodless(LinkArchive x) {
        int e = x.copy(5);
        x.drop(e, 1, METHOD, 0, 0);
        x.seal(e);
        return e;
    }

    private static void promise22To24() {
        LinkArchive x = new LinkArchive();
        refused("23: no such edition", INDEX, () -> x.look(0, 0));
        refused("23: no such edition ahead of all", INDEX, () -> x.look(-1, 99));
        refused("24: no such caller", INDEX, () -> x.uses(0));
        x.edition();
        x.edition();
        due("22: editions", 2, () -> x.count(0));
        due("22: callers", 0, () -> x.count(1));
        for (int wrong : new int[] {-1, 2, 99, Integer.MIN_VALUE, Integer.MAX_VALUE}) {
            due("22: what " + wrong, NONE, () -> x.count(wrong));
        }
        plain(x, 0, 1, NONE);
        plain(x, 0, 2, 1);
        x.member(0, 1, FIELD, 0, 0, 3, true, 0);
        x.member(0, 1, METHOD, 0, 0, 3, true, 0);
        x.member(0, 2, CONSTANT, 0, 0, 3, true, 0);
        due("23: open", 0, () -> x.look(0, 0));
        due("23: types", 2, () -> x.look(0, 1));
        due("23: members", 3, () -> x.look(0, 2));
        for (int wrong : new int[] {-1, 3, 99, Integer.MIN_VALUE, Integer.MAX_VALUE}) {
            due("23: what " + wrong, NONE, () -> x.look(0, wrong));
        }
        sealed(x, 0);
        due("23: sealed", 1, () -> x.look(0, 0));
        due("23: the other one is open", 0, () -> x.look(1, 0));
        refused("23: no such edition", INDEX, () -> x.look(2, 0));
        x.caller(0, 0, NONE);
        due("22: a caller", 1, () -> x.count(1));
        due("24: none", 0, () -> x.uses(0));
        x.use(0, 5, 1, 0, 0, 0);
        x.use(0, 5, 3, 0, 0, 0);
        x.use(0, 5, 2, 0, 0, 0);
        due("24: two that came", 2, () -> x.uses(0));
        refused("24: no such caller", INDEX, () -> x.uses(1));
        refused("24: no such caller", INDEX, () -> x.uses(-1));
    }

    private static void aCallThatThrowsChangesNothing() {
        LinkArchive x = withEdition();
        plain(x, 0, 1, NONE);
        method(x, 0, 1, 0, 3, 1);
        refused("a wrong type", ARGUMENT, () -> x.type(0, 2, false, false, 4, true, NONE));
        refused("a wrong interface", ARGUMENT, () -> x.implement(0, 1, 16));
        refused("a wrong member", ARGUMENT, () -> x.member(0, 1, METHOD, 1, 0, 3, true, -1));
        due("no type came", 1, () -> x.look(0, 1));
        due("no member came", 1, () -> x.look(0, 2));
        sealed(x, 0);
        refused("a wrong caller", ARGUMENT, () -> x.caller(0, 0, 2));
        due("no caller came", 0, () -> x.caller(0, 0, NONE));
        refused("a wrong use", ARGUMENT, () -> x.use(0, 6, 1, 0, 0, 0));
        due("no use came", 0, () -> x.uses(0));
        refused("a drop in a sealed edition", STATE, () -> bit(x.drop(0, 1, METHOD, 0, 0)));
        due("the method is there", 1, () -> x.find(0, 1, true, 0, 0));
    }

    /** Ten types, each with all that a type can have, as a chain of classes: the most that can differ. */
    private static void fullestArchive() {
        LinkArchive x = new LinkArchive();
        for (int e = 0; e < 2; e++) {
            x.edition();
            for (int t = 0; t < 10; t++) {
                boolean itf = e == 1;
                x.type(e, t, itf, false, e, true, itf || t == 0 ? NONE : t - 1);
                for (int i = 1; itf && i <= 3 && t - i >= 0; i++) {
                    x.implement(e, t, t - i);
                }
                for (int m = 0; m < 6; m++) {
                    x.member(e, t, m < 3 ? FIELD : METHOD, m, 0, 3 - (itf ? 0 : 1), itf, e);
                }
            }
            sealed(x, e);
        }
        // Each type has 3, 4, 5 and 18 of members; all but the first also 6 and 7.
        due("the most differences", 10 * (3 + 18) + 9 * 2, () -> x.differ(0, 1));
        due("the last of them", 13, () -> x.difference(0, 1, 10 * 21 + 17, 0));
        due("and its type", 9, () -> x.difference(0, 1, 10 * 21 + 17, 1));
        due("it does not fit", 0, () -> bit(x.compatible(0, 1)));
        x.copy(1);
        sealed(x, 2);
        due("a copy of all that does not differ", 0, () -> x.differ(1, 2));
        due("and fits", 1, () -> bit(x.compatible(1, 2)));
        x.copy(0);
        sealed(x, 3);
        due("a copy of all classes fits", 1, () -> bit(x.compatible(0, 3)));
        due("found at the top", 9, () -> x.find(1, 9, true, 5, 0));
        due("the top is above the bottom", 1, () -> bit(x.above(1, 0, 9)));
    }
}
