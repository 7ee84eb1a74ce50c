import java.util.ArrayList;
import java.util.List;
import java.util.function.Consumer;
import java.util.stream.Stream;

/** Of several exceptions the one told first is thrown, and a call that throws changes nothing. */
public final class RefusedCallsTest extends ArchiveCalls {
    public static void main(String[] args) {
        begin("RefusedCallsTest");
        theOneToldFirst();
        theOneToldFirstOfAFullArchive();
        refusedCallsBetweenOthersChangeNothing();
        refusedCallsOnAFullEditionChangeNothing();
        refusedCallsOnAFullCallerChangeNothing();
        finish();
    }

    // ---- which one is thrown ----

    /** Edition 0 is OPEN and full, 1 sealed and full, 2 OPEN and empty. */
    private static LinkArchive openAndSealed() {
        LinkArchive x = withEdition();
        fill(x, 0);
        x.edition();
        fill(x, 1);
        sealed(x, 1);
        x.edition();
        return x;
    }

    private static void theOneToldFirst() {
        LinkArchive x = openAndSealed();
        refused("type: no edition, and wrong", INDEX, () -> x.type(3, 16, true, false, 4, true, 16));
        refused("type: sealed, wrong and full", STATE, () -> x.type(1, 16, true, false, 4, true, 16));
        refused("type: sealed and full", STATE, () -> x.type(1, 15, false, false, 0, true, NONE));
        refused("type: wrong and full", ARGUMENT, () -> x.type(0, 15, false, false, 4, true, NONE));
        refused("type: there, and full", ARGUMENT, () -> x.type(0, 0, false, false, 0, true, NONE));
        refused("type: full", FULL, () -> x.type(0, 15, false, false, 0, true, NONE));
        refused("implement: no edition, and wrong", INDEX, () -> x.implement(3, 16, 16));
        refused("implement: sealed, wrong and full", STATE, () -> x.implement(1, 9, 16));
        refused("implement: sealed and full", STATE, () -> x.implement(1, 9, 0));
        refused("implement: wrong and full", ARGUMENT, () -> x.implement(0, 9, 16));
        refused("implement: there, and full", ARGUMENT, () -> x.implement(0, 9, 8));
        refused("implement: full", FULL, () -> x.implement(0, 9, 0));
        refused("member: no edition, and wrong", INDEX, () -> x.member(3, 16, 3, 16, 4, 4, true, 10));
        refused("member: sealed, wrong and full", STATE, () -> x.member(1, 9, 3, 16, 4, 4, true, 10));
        refused("member: sealed and full", STATE, () -> x.member(1, 9, METHOD, 15, 0, PUBLIC, true, 0));
        refused("member: wrong and full", ARGUMENT, () -> x.member(0, 9, METHOD, 15, 0, PUBLIC, true, ABSTRACT));
        refused("member: there, and full", ARGUMENT, () -> x.member(0, 9, METHOD, 5, 0, PUBLIC, true, 0));
        refused("member: full", FULL, () -> x.member(0, 9, METHOD, 15, 0, PUBLIC, true, 0));
        refused("drop: no edition, another what", INDEX, () -> bit(x.drop(3, 16, 9, 16, 4)));
        refused("drop: sealed, nothing there", STATE, () -> bit(x.drop(1, 16, 9, 16, 4)));
        refused("above: OPEN, no such names", STATE, () -> bit(x.above(0, 16, 16)));
        refused("find: OPEN, no such names", STATE, () -> x.find(0, 16, true, 16, 4));
        refused("select: OPEN, no such names", STATE, () -> x.select(0, 16, 16, 4, 16));
        refused("differ: OPEN, and no edition", INDEX, () -> x.differ(0, 3));
        refused("differ: no edition, and OPEN", INDEX, () -> x.differ(3, 0));
        refused("difference: no edition, none such", INDEX, () -> x.difference(0, 3, -1, 6));
        refused("difference: OPEN, none such", STATE, () -> x.difference(1, 0, -1, 6));
        refused("difference: OPEN first, none such", STATE, () -> x.difference(0, 1, -1, 6));
        refused("difference: none such", NO_ELEMENT, () -> x.difference(1, 1, -1, 6));
        refused("compatible: OPEN, and no edition", INDEX, () -> bit(x.compatible(0, 3)));
    }

    private static void theOneToldFirstOfAFullArchive() {
        LinkArchive x = withEdition();
        plain(x, 0, 0, NONE);
        sealed(x, 0);
        for (int i = 1; i < 8; i++) {
            x.edition();
        }
        for (int i = 0; i < 12; i++) {
            x.caller(0, 0, NONE);
        }
        for (int i = 0; i < 20; i++) {
            x.use(11, 5, 0, 0, 0, 0);
        }
        refused("copy: no edition, and full", INDEX, () -> x.copy(8));
        refused("copy: OPEN, and full", STATE, () -> x.copy(7));
        refused("copy: full", FULL, () -> x.copy(0));
        refused("caller: no edition, wrong and full", INDEX, () -> x.caller(8, 5, 16));
        refused("caller: OPEN, wrong and full", STATE, () -> x.caller(7, 5, 16));
        refused("caller: wrong and full", ARGUMENT, () -> x.caller(0, 5, NONE));
        refused("caller: a wrong super and full", ARGUMENT, () -> x.caller(0, 0, 16));
        refused("caller: full", FULL, () -> x.caller(0, 0, NONE));
        refused("use: no caller, wrong", INDEX, () -> x.use(12, 6, 16, 16, 4, 16));
        refused("use: wrong and full", ARGUMENT, () -> x.use(11, 6, 16, 16, 4, 16));
        refused("use: full", FULL, () -> x.use(11, 5, 0, 0, 0, 0));
        refused("foretell: no caller, and OPEN", INDEX, () -> x.foretell(12, 7, 0));
        refused("foretell: no use, and OPEN", INDEX, () -> x.foretell(11, 7, 20));
        refused("foretell: OPEN", STATE, () -> x.foretell(11, 7, 19));
        refused("runs: no use, and OPEN", INDEX, () -> x.runs(11, 7, 20));
        refused("runs: OPEN", STATE, () -> x.runs(11, 7, 19));
        refused("meets: no caller, and OPEN", INDEX, () -> x.meets(12, 7, 99));
        refused("meets: OPEN, another number", STATE, () -> x.meets(11, 7, 99));
    }

    // ---- nothing is changed ----

    /** Calls that are refused whatever the archive has. */
    private static List<Consumer<LinkArchive>> alwaysRefused() {
        List<Consumer<LinkArchive>> calls = new ArrayList<>();
        calls.add(x -> x.copy(8));
        calls.add(x -> x.type(0, 16, false, false, 0, true, NONE));
        calls.add(x -> x.type(1, 9, true, false, 0, true, 0));
        calls.add(x -> x.implement(0, 2, 16));
        calls.add(x -> x.implement(1, 14, 0));
        calls.add(x -> x.member(0, 1, METHOD, 9, 0, PUBLIC, true, ABSTRACT));
        calls.add(x -> x.member(1, 1, CONSTANT, 9, 0, PUBLIC, false, 1));
        calls.add(x -> x.drop(-1, 1, WHOLE_TYPE, 0, 0));
        calls.add(x -> x.seal(8));
        calls.add(x -> x.caller(0, 5, NONE));
        calls.add(x -> x.caller(0, 0, 15));
        calls.add(x -> x.use(0, 6, 1, 0, 0, 1));
        calls.add(x -> x.use(12, 5, 1, 0, 0, 1));
        calls.add(x -> x.foretell(0, 0, 20));
        calls.add(x -> x.differ(0, 8));
        calls.add(x -> x.difference(0, 0, 0, 6));
        calls.add(x -> x.compatible(8, 0));
        return calls;
    }

    /** Two editions, a caller and its uses, step by step. */
    private static List<Consumer<LinkArchive>> steps() {
        List<Consumer<LinkArchive>> steps = new ArrayList<>();
        steps.add(x -> x.edition());
        steps.add(x -> face(x, 0, 3));
        steps.add(x -> plain(x, 0, 1, NONE));
        steps.add(x -> plain(x, 0, 2, 1));
        steps.add(x -> x.implement(0, 2, 3));
        steps.add(x -> method(x, 0, 3, 0, PUBLIC, 1));
        steps.add(x -> method(x, 0, 1, 0, PUBLIC, 2));
        steps.add(x -> x.member(0, 1, CONSTANT, 0, 0, PUBLIC, true, 4));
        steps.add(x -> x.seal(0));
        steps.add(x -> x.caller(0, 4, 1));
        steps.add(x -> x.use(0, 2, 2, 0, 0, 2));
        steps.add(x -> x.use(0, 1, 2, 0, 0, 2));
        steps.add(x -> x.use(0, 5, 9, 0, 0, 2));
        steps.add(x -> x.copy(0));
        steps.add(x -> x.drop(1, 1, METHOD, 0, 0));
        steps.add(x -> method(x, 1, 2, 0, PUBLIC, 2));
        steps.add(x -> x.seal(1));
        steps.add(x -> x.differ(0, 1));
        return steps;
    }

    private static void refusedCallsBetweenOthersChangeNothing() {
        LinkArchive quiet = new LinkArchive();
        LinkArchive x = new LinkArchive();
        for (Consumer<LinkArchive> step : steps()) {
            step.accept(quiet);
            for (Consumer<LinkArchive> wrong : alwaysRefused()) {
                yes("a refused call throws", () -> isRefused(x, wrong));
            }
            step.accept(x);
        }
        due("what is seen is the same", 0, () -> seen(quiet).compareTo(seen(x)));
        differences("a refused call changes no difference", x, 0, 1, row(10, 1, 0, 0, 2, 1));
        foretold("nor what is met", x, 0, 1, 8, 0);
    }

    /** Whether a call throws one of the document's exceptions itself, and not one of the machine's. */
    private static boolean isRefused(LinkArchive x, Consumer<LinkArchive> call) {
        String outcome = Check.outcome(() -> {
            call.accept(x);
            return 0;
        });
        return Stream.of(INDEX, STATE, ARGUMENT, FULL, NO_ELEMENT)
                .anyMatch(due -> outcome.equals("throws." + due.getSimpleName()));
    }

    /** The answers of an archive that was made by steps(), as a text. */
    private static String seen(LinkArchive x) {
        StringBuilder text = new StringBuilder();
        text.append(x.count(0)).append(',').append(x.count(1)).append(',').append(x.uses(0));
        for (int e = 0; e < 2; e++) {
            for (int what = 0; what < 3; what++) {
                text.append(',').append(x.look(e, what));
            }
            for (int type = 0; type < 5; type++) {
                text.append(',').append(x.find(e, type, true, 0, 0)).append(x.find(e, type, false, 0, 0));
                text.append(x.above(e, 3, type)).append(x.select(e, type, 0, 0, 2));
            }
            for (int use = 0; use < 2; use++) {
                text.append(',').append(x.foretell(0, e, use)).append(x.runs(0, e, use)).append(x.copied(0, use));
            }
            text.append(',').append(x.meets(0, e, 0)).append(x.compatible(e, 1 - e)).append(x.differ(e, 1 - e));
        }
        return text.append(x.best(0, true)).append(x.best(0, false)).toString();
    }

    private static void refusedCallsOnAFullEditionChangeNothing() {
        LinkArchive x = withEdition();
        fill(x, 0);
        refused("an eleventh type", FULL, () -> x.type(0, 15, false, false, 3, false, 0));
        refused("a fourth interface", FULL, () -> x.implement(0, 9, 0));
        refused("a seventh member", FULL, () -> x.member(0, 9, FIELD, 15, 0, PUBLIC, true, 0));
        refused("a type again", ARGUMENT, () -> x.type(0, 9, true, false, 3, false, NONE));
        refused("an interface again", ARGUMENT, () -> x.implement(0, 9, 8));
        refused("a member again", ARGUMENT, () -> x.member(0, 9, METHOD, 5, 0, PUBLIC, true, 9));
        sealed(x, 0);
        x.edition();
        fill(x, 1);
        sealed(x, 1);
        differences("the same as without them", x, 0, 1);
        due("no eleventh type came", NONE, () -> x.find(0, 15, true, 5, 0));
        due("nor a seventh member", NONE, () -> x.find(0, 9, false, 15, 0));
        refused("a type to a sealed one", STATE, () -> x.type(0, 15, false, false, 3, false, NONE));
        refused("a drop from it", STATE, () -> bit(x.drop(0, 9, WHOLE_TYPE, 0, 0)));
        refused("a member's drop", STATE, () -> bit(x.drop(0, 9, METHOD, 5, 0)));
        refused("sealing again", STATE, () -> x.seal(0));
        x.edition();
        sealed(x, 2);
        due("a sealed one stays as it was", 10, () -> x.differ(0, 2));
        due("with its members", 60, () -> x.look(0, 2));
    }

    private static void refusedCallsOnAFullCallerChangeNothing() {
        LinkArchive x = withEdition();
        plain(x, 0, 0, NONE);
        x.member(0, 0, CONSTANT, 0, 0, PUBLIC, true, 7);
        x.member(0, 0, METHOD, 0, 0, PUBLIC, true, 7);
        sealed(x, 0);
        x.caller(0, 4, NONE);
        for (int i = 0; i < 20; i++) {
            x.use(0, 1, 0, 0, 0, 0);
        }
        refused("a twenty-first use", FULL, () -> x.use(0, 3, 0, 0, 0, 0));
        refused("one of no kind", ARGUMENT, () -> x.use(0, 6, 0, 0, 0, 0));
        due("twenty uses", 20, () -> x.uses(0));
        for (int i = 0; i < 20; i++) {
            int use = i;
            due("each is what it was", 7, () -> x.copied(0, use));
            due("and runs nothing", NONE, () -> x.runs(0, 0, use));
        }
        x.caller(0, 4, NONE);
        due("a use that is not WELL", NONE, () -> x.use(1, 3, 0, 9, 0, 0));
        due("leaves the caller as it was", 0, () -> x.uses(1));
        due("and the next use is its own", 0, () -> x.use(1, 3, 0, 0, 0, 0));
        due("not what was tried", 0, () -> x.runs(1, 0, 0));
        due("with nothing copied", NONE, () -> x.copied(1, 0));
    }
}
