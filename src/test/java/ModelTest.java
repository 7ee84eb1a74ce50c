import java.util.ArrayList;
import java.util.Collections;
import java.util.List;
import java.util.Random;
import java.util.TreeMap;

/** Long runs of calls, drawn from fixed seeds, on the class and on the reference: each answer must be the same. */
public final class ModelTest {
    private static final int RUNS = 600;
    // What an object answers behind its 512th call is free; no step makes more than 12 calls.
    private static final int CALLS = 512 - 12;

    private final Check check;
    private final Random random;
    private final LinkArchive x = new LinkArchive();
    private final ReferenceArchive r = new ReferenceArchive();
    private final TreeMap<String, Integer> seen;
    private final List<String> log = new ArrayList<>();
    private final int spread;
    private int changesLeft;

    private ModelTest(Check check, long seed, TreeMap<String, Integer> seen) {
        this.check = check;
        this.random = new Random(seed);
        this.seen = seen;
        this.spread = 3 + random.nextInt(6);
    }

    public static void main(String[] args) {
        Check check = new Check("ModelTest");
        TreeMap<String, Integer> seen = new TreeMap<>();
        for (int seed = 0; seed < RUNS && check.wrong() == 0; seed++) {
            new ModelTest(check, seed, seen).run();
        }
        meetingsAreVaried(check, seen);
        if (args.length > 0) {
            System.out.println(seen);
        }
        check.finish();
    }

    /** The comparison is worth something only if the runs come to all that can be told. */
    private static void meetingsAreVaried(Check check, TreeMap<String, Integer> seen) {
        for (int met : new int[] {0, 1, 2, 3, 4, 5, 6, 8, 9}) {
            check.isTrue("the runs foretell " + met, seen.getOrDefault("foretell=" + met, 0) > 20);
        }
        for (int number = 1; number <= 13; number++) {
            check.isTrue("the runs tell difference " + number, seen.getOrDefault("number=" + number, 0) > 20);
        }
        check.isTrue("the runs have editions that fit", seen.getOrDefault("compatible=1", 0) > 20);
        check.isTrue("the runs have editions that do not fit", seen.getOrDefault("compatible=0", 0) > 20);
    }

    private void run() {
        while (log.size() < CALLS && check.wrong() == 0) {
            step();
        }
        if (check.wrong() != 0) {
            log.forEach(System.out::println);
        }
    }

    private int below(int n) {
        return random.nextInt(n);
    }

    private boolean oneIn(int n) {
        return below(n) == 0;
    }

    private int wild() {
        return oneIn(4) ? random.nextInt() : below(24) - 4;
    }

    private int drawnFrom(int n) {
        return oneIn(60) ? wild() : below(n);
    }

    private int someName() {
        return oneIn(8) ? drawnFrom(16) : drawnFrom(spread + 2);
    }

    private int memberName() {
        return oneIn(12) ? drawnFrom(16) : drawnFrom(3);
    }

    private int sort() {
        return oneIn(8) ? drawnFrom(4) : drawnFrom(2);
    }

    private int editionNumber(boolean sealed) {
        if (oneIn(25)) {
            return wild();
        }
        List<Integer> fitting = new ArrayList<>();
        for (int i = 0; i < r.editions.size(); i++) {
            if (r.editions.get(i).sealed == sealed) {
                fitting.add(i);
            }
        }
        return fitting.isEmpty() ? drawnFrom(3) : fitting.get(below(fitting.size()));
    }

    private int typeIn(int edition) {
        if (oneIn(30) || edition < 0 || edition >= r.editions.size() || r.editions.get(edition).types.isEmpty()) {
            return someName();
        }
        List<ReferenceArchive.T> types = r.editions.get(edition).types;
        return types.get(below(types.size())).name;
    }

    private int typeIn(int edition, boolean itf) {
        int name = typeIn(edition);
        for (int i = 0; i < 6; i++) {
            ReferenceArchive.T t = edition < 0 || edition >= r.editions.size() ? null
                    : r.editions.get(edition).get(name);
            if (t != null && t.itf == itf) {
                return name;
            }
            name = typeIn(edition);
        }
        return name;
    }

    /** A class or an interface ahead of a type, so that few types come to be above themselves. */
    private int earlier(int edition, int type, boolean itf) {
        int name = typeIn(edition, itf);
        for (int i = 0; i < 10; i++) {
            if (edition < 0 || edition >= r.editions.size()) {
                return name;
            }
            for (ReferenceArchive.T t : r.editions.get(edition).types) {
                if (t.name == name && t.itf == itf && name != type) {
                    return name;
                }
                if (t.name == type) {
                    break;
                }
            }
            name = typeIn(edition, itf);
        }
        return name;
    }

    /** A caller, mostly one that has uses. */
    private int callerNumber() {
        if (oneIn(25)) {
            return wild();
        }
        int caller = drawnFrom(Math.max(1, r.callers.size()));
        for (int i = 0; i < 3 && useCount(caller) == 0; i++) {
            caller = drawnFrom(Math.max(1, r.callers.size()));
        }
        return caller;
    }

    private int useCount(int caller) {
        return caller < 0 || caller >= r.callers.size() ? 0 : r.callers.get(caller).uses.size();
    }

    private int useNumber(int caller) {
        return oneIn(20) ? wild() : drawnFrom(Math.max(1, useCount(caller)));
    }

    private void both(String call, Check.Call got, Check.Call want) {
        String due = Check.outcome(want);
        log.add(call + " -> " + due);
        seen.merge(call.replaceAll("\\(.*", "") + "=" + due, 1, Integer::sum);
        check.same(call, due, Check.outcome(got));
    }

    private void step() {
        int open = openEdition();
        if (r.editions.isEmpty() || oneIn(150)) {
            both("edition()", x::edition, r::edition);
            changesLeft = 25 + below(40);
        } else if (open != -1 && below(100) < 88) {
            build(open);
        } else if (open == -1 && oneIn(30)) {
            copy();
        } else if (below(100) < 65) {
            callers();
        } else {
            ask();
        }
    }

    private int openEdition() {
        for (int i = 0; i < r.editions.size(); i++) {
            if (!r.editions.get(i).sealed) {
                return i;
            }
        }
        return -1;
    }

    private void copy() {
        int e = editionNumber(!oneIn(12));
        both("copy(" + e + ")", () -> x.copy(e), () -> r.copy(e));
        changesLeft = 1 + below(16);
    }

    private void build(int open) {
        int e = oneIn(40) ? editionNumber(oneIn(2)) : open;
        changesLeft--;
        if (changesLeft <= 0) {
            close(e);
            return;
        }
        List<ReferenceArchive.T> types = e == open ? r.editions.get(open).types : List.of();
        boolean isNew = changesLeft > 16;
        int kind = below(100);
        if (isNew ? types.size() < spread || kind < 5 : kind < 10) {
            type(e);
        } else if (kind < 20) {
            int t = typeIn(e);
            int i = oneIn(25) ? typeIn(e) : earlier(e, t, true);
            both("implement(" + e + "," + t + "," + i + ")", () -> x.implement(e, t, i), () -> r.implement(e, t, i));
        } else if (isNew || kind < 45) {
            member(e);
        } else if (kind < 55) {
            drop(e);
        } else if (kind < 90) {
            change(e);
        } else {
            retype(e);
        }
    }

    /** Seals; a type that is against it comes again without leaning on anything. */
    private void close(int e) {
        both("seal(" + e + ")", () -> x.seal(e), () -> r.seal(e));
        String answer = log.get(log.size() - 1).replaceAll(".* -> ", "");
        if (answer.matches("\\d+")) {
            ReferenceArchive.T t = r.editions.get(e).get(Integer.parseInt(answer));
            dropType(e, t);
            makeType(e, t.name, t.itf, t.abs, t.pack, t.pub, -1);
            t.members.forEach(m -> addLike(e, t.name, m));
        }
    }

    private void dropType(int e, ReferenceArchive.T t) {
        both("drop(" + e + "," + t.name + ",2,9,9)",
                () -> x.drop(e, t.name, 2, 9, 9) ? 1 : 0, () -> r.drop(e, t.name, 2, 9, 9) ? 1 : 0);
    }

    private void makeType(int e, int n, boolean itf, boolean abs, int pack, boolean pub, int sup) {
        both("type(" + e + "," + n + "," + itf + "," + abs + "," + pack + "," + pub + "," + sup + ")",
                () -> x.type(e, n, itf, abs, pack, pub, sup), () -> r.type(e, n, itf, abs, pack, pub, sup));
    }

    private void addLike(int e, int type, ReferenceArchive.M m) {
        int what = m.method() ? 1 : m.constant() ? 2 : 0;
        add(e, type, what, m.name(), m.sort(), new int[] {m.access(), m.isStatic() ? 1 : 0, m.body()});
    }

    /** A member goes and comes again: elsewhere, or there with something changed. */
    private void change(int e) {
        ReferenceArchive.T from = e < 0 || e >= r.editions.size() ? null : r.editions.get(e).get(typeIn(e));
        if (from == null || from.members.isEmpty()) {
            return;
        }
        ReferenceArchive.M m = from.members.get(below(from.members.size()));
        int what = m.method() ? 1 : 0;
        both("drop(" + e + "," + from.name + "," + what + "," + m.name() + "," + m.sort() + ")",
                () -> x.drop(e, from.name, what, m.name(), m.sort()) ? 1 : 0,
                () -> r.drop(e, from.name, what, m.name(), m.sort()) ? 1 : 0);
        int to = oneIn(3) ? from.name : akinTo(e, from.name);
        int kind = m.constant() != oneIn(8) && !m.method() ? 2 : what;
        int access = oneIn(3) ? below(4) : m.access();
        boolean stat = m.isStatic() != oneIn(8);
        int body = oneIn(5) ? below(4) - 1 : m.body();
        add(e, to, kind, m.name(), m.sort(), new int[] {access, stat ? 1 : 0, body});
    }

    /** A type above or below another one, if one is come upon. */
    private int akinTo(int e, int type) {
        int name = typeIn(e);
        for (int i = 0; i < 8; i++) {
            if (r.editions.get(e).above(name, type) || r.editions.get(e).above(type, name)) {
                return name;
            }
            name = typeIn(e);
        }
        return name;
    }

    /** A type goes and comes again with another shape, and mostly with the same members. */
    private void retype(int e) {
        ReferenceArchive.T t = e < 0 || e >= r.editions.size() ? null : r.editions.get(e).get(typeIn(e));
        if (t == null) {
            return;
        }
        dropType(e, t);
        boolean itf = t.itf != oneIn(6);
        boolean abs = t.abs != oneIn(4);
        boolean pub = t.pub != oneIn(4);
        int pack = oneIn(3) ? below(4) : t.pack;
        int sup = itf ? -1 : oneIn(2) ? t.sup : earlier(e, -1, false);
        makeType(e, t.name, itf, abs, pack, pub, sup);
        List<Integer> itfs = new ArrayList<>(t.itfs);
        Collections.shuffle(itfs, random);
        for (int i : itfs) {
            both("implement(" + e + "," + t.name + "," + i + ")",
                    () -> x.implement(e, t.name, i), () -> r.implement(e, t.name, i));
        }
        t.members.forEach(m -> addLike(e, t.name, m));
    }

    private void type(int e) {
        int n = someName();
        boolean itf = oneIn(3);
        boolean abs = oneIn(4);
        int p = oneIn(3) ? drawnFrom(4) : 0;
        boolean pub = !oneIn(4);
        int sup = itf ? (oneIn(20) ? someName() : -1) : oneIn(4) ? -1 : typeIn(e, false);
        makeType(e, n, itf, abs, p, pub, sup);
    }

    private void member(int e) {
        int t = typeIn(e);
        int w = oneIn(3) ? drawnFrom(3) : 1;
        int a = oneIn(3) ? drawnFrom(4) : 3;
        boolean stat = w == 2 ? !oneIn(10) : oneIn(4);
        int b = w == 1 && !stat && oneIn(4) ? -1 : oneIn(40) ? wild() : below(3);
        add(e, t, w, memberName(), sort(), new int[] {a, stat ? 1 : 0, b});
    }

    private void add(int e, int t, int w, int n, int s, int[] rest) {
        int a = rest[0];
        boolean stat = rest[1] == 1;
        int b = rest[2];
        both("member(" + e + "," + t + "," + w + "," + n + "," + s + "," + a + "," + stat + "," + b + ")",
                () -> x.member(e, t, w, n, s, a, stat, b), () -> r.member(e, t, w, n, s, a, stat, b));
    }

    private void drop(int e) {
        int t = typeIn(e);
        int w = oneIn(4) ? 2 : drawnFrom(2);
        int n = memberName();
        int s = sort();
        both("drop(" + e + "," + t + "," + w + "," + n + "," + s + ")",
                () -> x.drop(e, t, w, n, s) ? 1 : 0, () -> r.drop(e, t, w, n, s) ? 1 : 0);
    }

    private void callers() {
        int e = editionNumber(!oneIn(20));
        int c = callerNumber();
        int kind = below(100);
        if (kind < 8 || r.callers.isEmpty()) {
            int p = drawnFrom(5);
            int s = oneIn(2) ? -1 : typeIn(e, false);
            both("caller(" + e + "," + p + "," + s + ")", () -> x.caller(e, p, s), () -> r.caller(e, p, s));
        } else if (kind < 60) {
            use(c);
        } else {
            askUse(c, e);
        }
    }

    private void use(int c) {
        int own = c < 0 || c >= r.callers.size() ? 0 : r.callers.get(c).edition;
        int k = oneIn(2) ? (oneIn(2) ? 2 : 4) : drawnFrom(6);
        int t = oneIn(10) ? typeIn(own) : typeIn(own, k == 4);
        int key = keyFor(own, t, k >= 2);
        int n = oneIn(12) ? memberName() : key / 4;
        int s = oneIn(12) ? sort() : key % 4;
        int v = receiverFor(own, t);
        both("use(" + c + "," + k + "," + t + "," + n + "," + s + "," + v + ")",
                () -> x.use(c, k, t, n, s, v), () -> r.use(c, k, t, n, s, v));
    }

    /** The name and sort of a member that a type, or one above it, has. */
    private int keyFor(int edition, int type, boolean method) {
        List<Integer> keys = new ArrayList<>(List.of(0));
        if (edition < r.editions.size()) {
            ReferenceArchive.E e = r.editions.get(edition);
            for (ReferenceArchive.T t : e.types) {
                for (ReferenceArchive.M m : t.members) {
                    if (m.method() == method && (t.name == type || e.above(t.name, type))) {
                        keys.add(m.name() * 4 + m.sort());
                    }
                }
            }
        }
        return keys.get(below(keys.size()));
    }

    private int receiverFor(int edition, int type) {
        int name = typeIn(edition, false);
        for (int i = 0; i < 6 && edition < r.editions.size() && name != type; i++) {
            if (r.editions.get(edition).above(type, name)) {
                return name;
            }
            name = typeIn(edition, false);
        }
        return name;
    }

    private void askUse(int c, int e) {
        int u = useNumber(c);
        int w = drawnFrom(10);
        boolean o = oneIn(2);
        String of = "(" + c + "," + e + "," + u + ")";
        switch (below(8)) {
            case 0, 1, 2 -> both("foretell" + of, () -> x.foretell(c, e, u), () -> r.foretell(c, e, u));
            case 3, 4 -> both("runs" + of, () -> x.runs(c, e, u), () -> r.runs(c, e, u));
            case 5 -> both("copied(" + c + "," + u + ")", () -> x.copied(c, u), () -> r.copied(c, u));
            case 6 -> both("meets(" + c + "," + e + "," + w + ")", () -> x.meets(c, e, w), () -> r.meets(c, e, w));
            default -> both("best(" + c + "," + o + ")", () -> x.best(c, o), () -> r.best(c, o));
        }
    }

    private void ask() {
        int e = editionNumber(!oneIn(20));
        int f = editionNumber(!oneIn(20));
        switch (below(10)) {
            case 0, 1, 2 -> askFinding(e);
            case 3 -> both("differ(" + e + "," + f + ")", () -> x.differ(e, f), () -> r.differ(e, f));
            case 4, 5, 6 -> difference(e, f);
            case 7, 8 -> both("compatible(" + e + "," + f + ")",
                    () -> x.compatible(e, f) ? 1 : 0, () -> r.compatible(e, f) ? 1 : 0);
            default -> counts(e);
        }
    }

    private void askFinding(int e) {
        int t = typeIn(e);
        int o = oneIn(3) ? typeIn(e) : receiverFor(Math.max(0, e), t);
        boolean m = !oneIn(3);
        int key = keyFor(Math.max(0, e), t, m);
        int n = oneIn(5) ? memberName() : key / 4;
        int s = oneIn(5) ? sort() : key % 4;
        switch (below(4)) {
            case 0 -> both("above(" + e + "," + t + "," + o + ")",
                    () -> x.above(e, t, o) ? 1 : 0, () -> r.above(e, t, o) ? 1 : 0);
            case 1, 2 -> both("find(" + e + "," + t + "," + m + "," + n + "," + s + ")",
                    () -> x.find(e, t, m, n, s), () -> r.find(e, t, m, n, s));
            default -> both("select(" + e + "," + t + "," + n + "," + s + "," + o + ")",
                    () -> x.select(e, t, n, s, o), () -> r.select(e, t, n, s, o));
        }
    }

    private void difference(int e, int f) {
        int count = 1;
        try {
            count = r.differ(e, f);
        } catch (RuntimeException refused) {
            count = 2;
        }
        int i = oneIn(20) ? wild() : drawnFrom(Math.max(1, count));
        for (int column = 0; column < 6; column++) {
            int w = oneIn(40) ? wild() : column;
            String name = w == 0 ? "number" : "difference";
            both(name + "(" + e + "," + f + "," + i + "," + w + ")",
                    () -> x.difference(e, f, i, w), () -> r.difference(e, f, i, w));
        }
    }

    private void counts(int e) {
        int c = callerNumber();
        int w = drawnFrom(4);
        switch (below(3)) {
            case 0 -> both("count(" + w + ")", () -> x.count(w), () -> r.count(w));
            case 1 -> both("look(" + e + "," + w + ")", () -> x.look(e, w), () -> r.look(e, w));
            default -> both("uses(" + c + ")", () -> x.uses(c), () -> r.uses(c));
        }
    }
}
