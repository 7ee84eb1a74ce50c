import java.util.ArrayList;
import java.util.Arrays;
import java.util.Collections;
import java.util.HashSet;
import java.util.List;
import java.util.Random;
import java.util.Set;

/** What always holds, on many small editions that come from fixed seeds. */
public final class AlwaysHoldsTest extends ArchiveCalls {
    private static final int PAIRS = 1500;
    private static final int NAMES = 4;

    /** A type as it will be told to an archive. */
    private static final class Draft {
        int name;
        boolean itf;
        boolean abs;
        int pack;
        boolean pub;
        int sup = NONE;
        List<Integer> itfs = new ArrayList<>();
        List<int[]> members = new ArrayList<>();

        Draft copy() {
            Draft d = new Draft();
            d.name = name;
            d.itf = itf;
            d.abs = abs;
            d.pack = pack;
            d.pub = pub;
            d.sup = sup;
            d.itfs.addAll(itfs);
            members.forEach(m -> d.members.add(m.clone()));
            return d;
        }

        /** The same text for the same type in whatever order it has what it has. */
        String text() {
            List<Integer> sortedItfs = new ArrayList<>(itfs);
            Collections.sort(sortedItfs);
            List<String> sortedMembers = new ArrayList<>();
            members.forEach(m -> sortedMembers.add(Arrays.toString(m)));
            Collections.sort(sortedMembers);
            return name + " " + itf + " " + (itf || abs) + " " + pack + " " + pub + " " + sup + sortedItfs
                    + sortedMembers;
        }
    }

    public static void main(String[] args) {
        begin("AlwaysHoldsTest");
        allEditionsOfTwoTypes();
        editionsOfSomeTypes();
        pairs();
        finish();
    }

    private static void build(LinkArchive x, int e, List<Draft> types) {
        for (Draft d : types) {
            x.type(e, d.name, d.itf, d.abs, d.pack, d.pub, d.sup);
            d.itfs.forEach(i -> x.implement(e, d.name, i));
            d.members.forEach(m -> x.member(e, d.name, m[0], m[1], m[2], m[3], m[4] == 1, m[5]));
        }
    }

    // ---- an edition is sealed just if all that its types lean on is there, and nothing leans on itself ----

    private static int sealing(List<Draft> types) {
        for (Draft d : types) {
            boolean right = d.sup == NONE || types.stream().anyMatch(o -> o.name == d.sup && !o.itf);
            for (int i : d.itfs) {
                right = right && types.stream().anyMatch(o -> o.name == i && o.itf);
            }
            if (!right) {
                return d.name;
            }
        }
        boolean[][] above = new boolean[16][16];
        for (Draft d : types) {
            d.itfs.forEach(i -> above[d.name][i] = true);
            if (d.sup != NONE) {
                above[d.name][d.sup] = true;
            }
        }
        for (int middle = 0; middle < 16; middle++) {
            for (int from = 0; from < 16; from++) {
                for (int to = 0; to < 16; to++) {
                    above[from][to] |= above[from][middle] && above[middle][to];
                }
            }
        }
        return types.stream().filter(d -> above[d.name][d.name]).mapToInt(d -> d.name).findFirst().orElse(NONE);
    }

    private static void sealsAsDue(List<Draft> types) {
        LinkArchive x = withEdition();
        build(x, 0, types);
        int want = sealing(types);
        due("seal of " + types.stream().map(Draft::text).toList(), want, () -> x.seal(0));
        due("and it is sealed just then", bit(want == NONE), () -> x.look(0, 0));
    }

    /** Each of types 0 and 1 can lean on 0, 1 and 2, of which the last is not there, in all ways. */
    private static void allEditionsOfTwoTypes() {
        for (int first = 0; first < 40; first++) {
            for (int second = 0; second < 40; second++) {
                sealsAsDue(List.of(leaning(1, first), leaning(0, second)));
            }
        }
    }

    private static Draft leaning(int name, int way) {
        Draft d = new Draft();
        d.name = name;
        d.itf = way >= 32;
        d.pub = true;
        d.sup = d.itf ? NONE : way / 8 - 1;
        for (int i = 0; i < 3; i++) {
            if ((way >> i) % 2 == 1) {
                d.itfs.add(i);
            }
        }
        return d;
    }

    private static void editionsOfSomeTypes() {
        Random random = new Random(1);
        for (int n = 0; n < 3000; n++) {
            List<Draft> types = new ArrayList<>();
            int size = 1 + random.nextInt(6);
            for (int t = 0; t < size; t++) {
                Draft d = leaning(t, random.nextInt(2) * 32);
                d.sup = d.itf || random.nextInt(3) == 0 ? NONE : random.nextInt(size);
                for (int i = 0; i < size; i++) {
                    if (random.nextInt(5) == 0 && d.itfs.size() < 3) {
                        d.itfs.add(i);
                    }
                }
                types.add(d);
            }
            // Most drawn at will lean on what is not right; so that rings are met, mend that mostly.
            if (random.nextInt(4) != 0) {
                types.forEach(d -> d.itfs.removeIf(i -> !types.get(i).itf));
                types.forEach(d -> d.sup = d.sup != NONE && types.get(d.sup).itf ? NONE : d.sup);
            }
            Collections.shuffle(types, random);
            sealsAsDue(types);
        }
    }

    // ---- pairs of editions ----

    private static void pairs() {
        Random random = new Random(2);
        int[] seen = new int[4];
        for (int n = 0; n < PAIRS; n++) {
            List<Draft> first = drawn(random);
            List<Draft> second = changed(random, first, random.nextInt(4));
            if (sealing(second) == NONE) {
                boolean alike = differencesAreRight(first, second);
                boolean fits = compatibleIsRight(first, second);
                seen[bit(alike)]++;
                seen[2 + bit(fits)]++;
            }
        }
        for (int i = 0; i < 4; i++) {
            int kind = i;
            yes("there are enough pairs of sort " + i, () -> seen[kind] > 100);
        }
    }

    private static List<Draft> drawn(Random random) {
        List<Draft> types = new ArrayList<>();
        for (int t = 0; t < NAMES; t++) {
            Draft d = new Draft();
            d.name = t;
            d.itf = random.nextInt(3) == 0;
            d.abs = random.nextInt(5) == 0;
            d.pack = random.nextInt(2);
            d.pub = random.nextInt(4) != 0;
            for (int o = 0; o < t; o++) {
                Draft other = types.get(o);
                if (other.itf && random.nextInt(2) == 0) {
                    d.itfs.add(o);
                } else if (!other.itf && !d.itf && random.nextInt(2) == 0) {
                    d.sup = o;
                }
            }
            types.add(d);
            for (int key = 0; key < 4; key++) {
                if (random.nextInt(3) == 0) {
                    d.members.add(member(random, d, key));
                }
            }
        }
        Collections.shuffle(types, random);
        return types;
    }

    /** What, name, sort, access, static, body of a member that a type can have. */
    private static int[] member(Random random, Draft d, int key) {
        int what = key < 2 ? METHOD : random.nextInt(4) == 0 ? CONSTANT : FIELD;
        int access = d.itf ? PUBLIC : random.nextInt(4);
        boolean isStatic = what == CONSTANT || what == FIELD && d.itf || random.nextInt(4) == 0;
        boolean isAbstract = what == METHOD && !isStatic && access != PRIVATE && random.nextInt(3) == 0;
        return new int[] {what, key % 2, 0, access, bit(isStatic), isAbstract ? ABSTRACT : random.nextInt(2)};
    }

    private static List<Draft> changed(Random random, List<Draft> types, int changes) {
        List<Draft> all = new ArrayList<>();
        types.forEach(d -> all.add(d.copy()));
        for (int i = 0; i < changes && !all.isEmpty(); i++) {
            change(random, all, all.get(random.nextInt(all.size())));
        }
        Collections.shuffle(all, random);
        for (Draft d : all) {
            Collections.shuffle(d.itfs, random);
            Collections.shuffle(d.members, random);
        }
        return all;
    }

    private static void change(Random random, List<Draft> all, Draft d) {
        int key = random.nextInt(4);
        switch (random.nextInt(8)) {
            case 0 -> d.abs = !d.abs;
            case 1 -> d.pub = !d.pub;
            case 2 -> d.pack = 1 - d.pack;
            case 3 -> d.sup = d.itf ? NONE : random.nextInt(NAMES) - 1;
            case 4 -> d.itfs.clear();
            case 5 -> all.remove(d);
            case 6 -> d.members.removeIf(m -> m[1] == key % 2 && (m[0] == METHOD) == key < 2);
            default -> {
                d.members.removeIf(m -> m[1] == key % 2 && (m[0] == METHOD) == key < 2);
                d.members.add(member(random, d, key));
            }
        }
    }

    // ---- none is told just of editions that are alike but for the order; each is told once ----

    private static boolean differencesAreRight(List<Draft> first, List<Draft> second) {
        LinkArchive x = withEdition();
        x.edition();
        build(x, 0, first);
        build(x, 1, second);
        sealed(x, 0);
        sealed(x, 1);
        boolean alike = sorted(first).equals(sorted(second));
        due("alike: " + sorted(first) + ", " + sorted(second), bit(alike), () -> bit(x.differ(0, 1) == 0));
        due("the other way", bit(alike), () -> bit(x.differ(1, 0) == 0));
        int[] there = numbers(x, 0, 1);
        int[] back = numbers(x, 1, 0);
        yes("what is in a alone is in b alone the other way", () -> there[1] == back[2] && there[2] == back[1]);
        for (int number : new int[] {3, 4, 5, 6, 7, 11, 12, 13}) {
            yes(number + " is told both ways", () -> there[number] == back[number]);
        }
        return alike;
    }

    private static List<String> sorted(List<Draft> types) {
        return types.stream().map(Draft::text).sorted().toList();
    }

    /** How many there are of each number; none is told twice. */
    private static int[] numbers(LinkArchive x, int a, int b) {
        int[] numbers = new int[14];
        Set<List<Integer>> told = new HashSet<>();
        for (int i = 0; i < x.differ(a, b); i++) {
            numbers[x.difference(a, b, i, 0)]++;
            List<Integer> row = List.of(x.difference(a, b, i, 0), x.difference(a, b, i, 1), x.difference(a, b, i, 2),
                    x.difference(a, b, i, 3), x.difference(a, b, i, 5));
            yes("told once: " + row, () -> told.add(row));
        }
        return numbers;
    }

    // ---- compatible: each use that is WELL with the one is tried with the other ----

    private static boolean compatibleIsRight(List<Draft> first, List<Draft> second) {
        LinkArchive x = bothSealed(first, second);
        boolean want = true;
        for (int pack = 0; pack < 5 && want; pack++) {
            want = packageFits(first, second, pack);
        }
        due("compatible: " + sorted(first) + ", " + sorted(second), bit(want), () -> bit(x.compatible(0, 1)));
        return want;
    }

    private static LinkArchive bothSealed(List<Draft> first, List<Draft> second) {
        LinkArchive x = withEdition();
        x.edition();
        build(x, 0, first);
        build(x, 1, second);
        x.seal(0);
        x.seal(1);
        return x;
    }

    /** Four types, two names, six kinds and four receivers are less than 512 calls. */
    private static boolean packageFits(List<Draft> first, List<Draft> second, int pack) {
        LinkArchive x = bothSealed(first, second);
        int caller = x.caller(0, pack, NONE);
        for (int kind = 0; kind < 6; kind++) {
            for (int type = 0; type < NAMES; type++) {
                for (int name = 0; name < (kind == 5 ? 1 : 2); name++) {
                    for (int receiver = 0; receiver < (kind == 2 || kind == 4 ? NAMES : 1); receiver++) {
                        if (x.uses(caller) == 20) {
                            caller = x.caller(0, pack, NONE);
                        }
                        int use = x.use(caller, kind, type, name, 0, receiver);
                        if (use != NONE && !stays(x, caller, use)) {
                            return false;
                        }
                    }
                }
            }
        }
        return true;
    }

    private static boolean stays(LinkArchive x, int caller, int use) {
        due("a use that came is WELL in its own edition", 0, () -> x.foretell(caller, 0, use));
        int met = x.foretell(caller, 1, use);
        return met == 0 || met == 8 || met == 9;
    }
}
