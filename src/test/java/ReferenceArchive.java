import java.util.ArrayList;
import java.util.LinkedHashSet;
import java.util.List;
import java.util.NoSuchElementException;
import java.util.Set;
import java.util.TreeSet;

/** The document once more, word for word and without any care for speed, to be compared with the class. */
final class ReferenceArchive {
    static final int NONE = -1;

    record M(boolean method, int name, int sort, int access, boolean isStatic, int body, boolean constant) {
        boolean is(boolean m, int n, int s) {
            return method == m && name == n && sort == s;
        }
    }

    static final class T {
        int name;
        boolean itf;
        boolean abs;
        int pack;
        boolean pub;
        int sup;
        List<Integer> itfs = new ArrayList<>();
        List<M> members = new ArrayList<>();

        M own(boolean method, int n, int s) {
            for (M m : members) {
                if (m.is(method, n, s)) {
                    return m;
                }
            }
            return null;
        }
    }

    static final class E {
        boolean sealed;
        List<T> types = new ArrayList<>();

        T get(int name) {
            for (T t : types) {
                if (t.name == name) {
                    return t;
                }
            }
            return null;
        }

        /** All NAMES that are above a type, by steps until nothing more comes. */
        Set<Integer> above(T t) {
            Set<Integer> all = new TreeSet<>(t.itfs);
            if (t.sup != NONE) {
                all.add(t.sup);
            }
            for (int size = -1; size != all.size();) {
                size = all.size();
                for (int n : List.copyOf(all)) {
                    T u = get(n);
                    if (u != null) {
                        all.addAll(u.itfs);
                        if (u.sup != NONE) {
                            all.add(u.sup);
                        }
                    }
                }
            }
            return all;
        }

        boolean above(int upper, int lower) {
            return get(upper) != null && get(lower) != null && above(get(lower)).contains(upper);
        }
    }

    record U(int kind, int type, int name, int sort, int receiver) {
        boolean method() {
            return kind == 2 || kind == 3 || kind == 4;
        }

        boolean received() {
            return kind == 2 || kind == 4;
        }
    }

    static final class C {
        int edition;
        int pack;
        int sup;
        List<U> uses = new ArrayList<>();
    }

    record D(int number, int type, int name, int sort, int goal, int method) {
    }

    final List<E> editions = new ArrayList<>();
    final List<C> callers = new ArrayList<>();

    static boolean in(int x, int lo, int hi) {
        return x >= lo && x <= hi;
    }

    E at(int e) {
        if (!in(e, 0, editions.size() - 1)) {
            throw new IndexOutOfBoundsException();
        }
        return editions.get(e);
    }

    E must(int e, boolean sealed) {
        if (at(e).sealed != sealed) {
            throw new IllegalStateException();
        }
        return at(e);
    }

    C callerAt(int c) {
        if (!in(c, 0, callers.size() - 1)) {
            throw new IndexOutOfBoundsException();
        }
        return callers.get(c);
    }

    U useAt(C c, int u) {
        if (!in(u, 0, c.uses.size() - 1)) {
            throw new IndexOutOfBoundsException();
        }
        return c.uses.get(u);
    }

    static void wrongIf(boolean wrong) {
        if (wrong) {
            throw new IllegalArgumentException();
        }
    }

    static void fullIf(boolean full) {
        if (full) {
            throw new UnsupportedOperationException();
        }
    }

    int edition() {
        fullIf(editions.size() == 8);
        editions.add(new E());
        return editions.size() - 1;
    }

    int copy(int edition) {
        E from = must(edition, true);
        fullIf(editions.size() == 8);
        E to = new E();
        for (T t : from.types) {
            T c = new T();
            c.name = t.name;
            c.itf = t.itf;
            c.abs = t.abs;
            c.pack = t.pack;
            c.pub = t.pub;
            c.sup = t.sup;
            c.itfs.addAll(t.itfs);
            c.members.addAll(t.members);
            to.types.add(c);
        }
        editions.add(to);
        return editions.size() - 1;
    }

    int type(int edition, int name, boolean itf, boolean abs, int pack, boolean pub, int sup) {
        E e = must(edition, false);
        wrongIf(!in(name, 0, 15) || !in(pack, 0, 3) || !in(sup, -1, 15) || itf && sup != NONE);
        wrongIf(e.get(name) != null);
        fullIf(e.types.size() == 10);
        T t = new T();
        t.name = name;
        t.itf = itf;
        t.abs = itf || abs;
        t.pack = pack;
        t.pub = pub;
        t.sup = sup;
        e.types.add(t);
        return e.types.size();
    }

    int implement(int edition, int name, int itf) {
        T t = must(edition, false).get(name);
        wrongIf(t == null || !in(itf, 0, 15) || t.itfs.contains(itf));
        fullIf(t.itfs.size() == 3);
        t.itfs.add(itf);
        return t.itfs.size();
    }

    int member(int edition, int type, int what, int name, int sort, int access, boolean stat, int body) {
        T t = must(edition, false).get(type);
        wrongIf(t == null || !in(what, 0, 2) || !in(name, 0, 15) || !in(sort, 0, 3) || !in(access, 0, 3));
        wrongIf(!in(body, what == 1 ? -1 : 0, 9));
        wrongIf(body == -1 && (stat || access == 0));
        wrongIf(what == 2 && !stat);
        wrongIf(t.itf && access != 3);
        wrongIf(t.itf && what != 1 && !stat);
        wrongIf(t.own(what == 1, name, sort) != null);
        fullIf(t.members.size() == 6);
        t.members.add(new M(what == 1, name, sort, access, stat, body, what == 2));
        return t.members.size();
    }

    boolean drop(int edition, int type, int what, int name, int sort) {
        E e = must(edition, false);
        T t = e.get(type);
        if (t == null || !in(what, 0, 2)) {
            return false;
        }
        return what == 2 ? e.types.remove(t) : t.members.removeIf(m -> m.is(what == 1, name, sort));
    }

    int seal(int edition) {
        E e = must(edition, false);
        for (T t : e.types) {
            boolean right = t.sup == NONE || e.get(t.sup) != null && !e.get(t.sup).itf;
            for (int i : t.itfs) {
                right &= e.get(i) != null && e.get(i).itf;
            }
            if (!right) {
                return t.name;
            }
        }
        for (T t : e.types) {
            if (e.above(t).contains(t.name)) {
                return t.name;
            }
        }
        e.sealed = true;
        return NONE;
    }

    boolean above(int edition, int upper, int lower) {
        return must(edition, true).above(upper, lower);
    }

    static T field(E e, T t, int n, int s) {
        if (t == null || t.own(false, n, s) != null) {
            return t;
        }
        for (int i : t.itfs) {
            T f = field(e, e.get(i), n, s);
            if (f != null) {
                return f;
            }
        }
        return field(e, e.get(t.sup), n, s);
    }

    static List<T> candidates(E e, T t, int n, int s) {
        List<T> all = new ArrayList<>();
        for (T i : e.types) {
            M m = i.own(true, n, s);
            if (i.itf && e.above(t).contains(i.name) && m != null && !m.isStatic && m.access != 0) {
                all.add(i);
            }
        }
        List<T> left = new ArrayList<>(all);
        left.removeIf(c -> all.stream().anyMatch(o -> e.above(c.name, o.name)));
        return left;
    }

    static T onlyConcrete(List<T> candidates, int n, int s) {
        List<T> concrete = candidates.stream().filter(c -> c.own(true, n, s).body != -1).toList();
        return concrete.size() == 1 ? concrete.get(0) : null;
    }

    static T method(E e, T t, int n, int s) {
        if (t == null) {
            return null;
        }
        for (T c = t; c != null; c = e.get(c.sup)) {
            if (c.own(true, n, s) != null) {
                return c;
            }
        }
        List<T> candidates = candidates(e, t, n, s);
        T only = onlyConcrete(candidates, n, s);
        return only != null ? only : candidates.isEmpty() ? null : candidates.get(0);
    }

    static T found(E e, int type, boolean method, int n, int s) {
        return method ? method(e, e.get(type), n, s) : field(e, e.get(type), n, s);
    }

    static T selection(E e, T d, int n, int s, T receiver) {
        M f = d.own(true, n, s);
        if (f.access == 0) {
            return d;
        }
        for (T c = receiver; c != null; c = e.get(c.sup)) {
            M m = c.own(true, n, s);
            if (m != null && !m.isStatic && m.access != 0 && (c == d || f.access > 1 || c.pack == d.pack)) {
                return c;
            }
        }
        return onlyConcrete(candidates(e, receiver, n, s), n, s);
    }

    static int name(T t) {
        return t == null ? NONE : t.name;
    }

    int find(int edition, int type, boolean method, int n, int s) {
        return name(found(must(edition, true), type, method, n, s));
    }

    int select(int edition, int type, int n, int s, int receiver) {
        E e = must(edition, true);
        T t = e.get(type);
        T r = e.get(receiver);
        if (t == null || t.own(true, n, s) == null || r == null || r.itf) {
            return NONE;
        }
        return name(selection(e, t, n, s, r));
    }

    int caller(int edition, int pack, int sup) {
        E e = must(edition, true);
        wrongIf(!in(pack, 0, 4) || sup != NONE && (e.get(sup) == null || e.get(sup).itf));
        fullIf(callers.size() == 12);
        C c = new C();
        c.edition = edition;
        c.pack = pack;
        c.sup = sup;
        callers.add(c);
        return callers.size() - 1;
    }

    static boolean access(E e, C c, T d, M m) {
        boolean samePack = d.pack == c.pack;
        boolean below = c.sup != NONE && e.get(c.sup) != null && (c.sup == d.name || e.above(d.name, c.sup));
        return m.access == 3 || m.access == 1 && samePack || m.access == 2 && (samePack || below);
    }

    M constantOf(C c, U u) {
        if (u.kind != 1) {
            return null;
        }
        T d = found(editions.get(c.edition), u.type, false, u.name, u.sort);
        M m = d == null ? null : d.own(false, u.name, u.sort);
        return m != null && m.constant ? m : null;
    }

    int meet(C c, U u, int edition) {
        E e = editions.get(edition);
        M old = constantOf(c, u);
        if (edition != c.edition && old != null) {
            T d = found(e, u.type, false, u.name, u.sort);
            M m = d == null ? null : d.own(false, u.name, u.sort);
            return m == null || !m.constant || m.body != old.body ? 9 : 0;
        }
        T t = e.get(u.type);
        T r = e.get(u.receiver);
        if (t == null || u.received() && r == null) {
            return 1;
        }
        if (!t.pub && t.pack != c.pack) {
            return 3;
        }
        if (u.kind == 2 && t.itf || u.kind == 4 && !t.itf) {
            return 6;
        }
        if (u.kind == 5) {
            return t.abs ? 5 : 0;
        }
        T d = found(e, u.type, u.method(), u.name, u.sort);
        if (d == null) {
            return 2;
        }
        M m = d.own(u.method(), u.name, u.sort);
        if (!access(e, c, d, m)) {
            return 3;
        }
        if (m.isStatic && (u.kind == 0 || u.received()) || !m.isStatic && (u.kind == 1 || u.kind == 3)) {
            return 4;
        }
        if (!u.received()) {
            return 0;
        }
        if (r.itf || r.abs || r != t && !e.above(t.name, r.name)) {
            return 6;
        }
        T s = selection(e, d, u.name, u.sort, r);
        if (s == null || s.own(true, u.name, u.sort).body == -1) {
            return 5;
        }
        if (u.kind == 4 && s.own(true, u.name, u.sort).access != 3) {
            return 3;
        }
        return edition != c.edition && s.name != runner(c.edition, u) ? 8 : 0;
    }

    int runner(int edition, U u) {
        E e = editions.get(edition);
        return name(selection(e, found(e, u.type, true, u.name, u.sort), u.name, u.sort, e.get(u.receiver)));
    }

    int use(int caller, int kind, int type, int n, int s, int receiver) {
        C c = callerAt(caller);
        wrongIf(!in(kind, 0, 5));
        fullIf(c.uses.size() == 20);
        U u = new U(kind, type, n, s, receiver);
        if (meet(c, u, c.edition) != 0) {
            return NONE;
        }
        c.uses.add(u);
        return c.uses.size() - 1;
    }

    int foretell(int caller, int edition, int use) {
        C c = callerAt(caller);
        at(edition);
        U u = useAt(c, use);
        must(edition, true);
        return meet(c, u, edition);
    }

    int runs(int caller, int edition, int use) {
        int met = foretell(caller, edition, use);
        U u = callerAt(caller).uses.get(use);
        if (u.received() && (met == 0 || met == 8)) {
            return runner(edition, u);
        }
        return u.kind == 3 && met == 0 ? name(found(editions.get(edition), u.type, true, u.name, u.sort)) : NONE;
    }

    int copied(int caller, int use) {
        C c = callerAt(caller);
        M m = constantOf(c, useAt(c, use));
        return m == null ? NONE : m.body;
    }

    int meets(int caller, int edition, int what) {
        C c = callerAt(caller);
        must(edition, true);
        return (int) c.uses.stream().filter(u -> meet(c, u, edition) == what).count();
    }

    int best(int caller, boolean oldest) {
        C c = callerAt(caller);
        List<Integer> good = new ArrayList<>();
        for (int e = 0; e < editions.size(); e++) {
            if (editions.get(e).sealed && meets(caller, e, 0) == c.uses.size()) {
                good.add(e);
            }
        }
        return good.isEmpty() ? NONE : good.get(oldest ? 0 : good.size() - 1);
    }

    /** What is above or below a NAME in one of two EDITIONS, in the order of NAMES. */
    static Set<Integer> akin(E a, E b, int name) {
        Set<Integer> akin = new TreeSet<>();
        for (int o = 0; o < 16; o++) {
            if (a.above(o, name) || a.above(name, o) || b.above(o, name) || b.above(name, o)) {
                akin.add(o);
            }
        }
        return akin;
    }

    static boolean has(E e, int type, boolean method, int n, int s) {
        return e.get(type) != null && e.get(type).own(method, n, s) != null;
    }

    static List<D> moves(E a, E b) {
        List<D> moves = new ArrayList<>();
        for (int slot = 0; slot < 16 * 128; slot++) {
            int type = slot / 128;
            boolean method = slot / 64 % 2 == 1;
            int n = slot / 4 % 16;
            int s = slot % 4;
            if (!has(a, type, method, n, s) || has(b, type, method, n, s)) {
                continue;
            }
            M m = a.get(type).own(method, n, s);
            for (int goal : akin(a, b, type)) {
                if (!has(b, goal, method, n, s) || has(a, goal, method, n, s)) {
                    continue;
                }
                M o = b.get(goal).own(method, n, s);
                boolean like = o.isStatic == m.isStatic && o.body == m.body && o.constant == m.constant;
                boolean free = moves.stream().noneMatch(
                        d -> d.goal == goal && d.method == (method ? 1 : 0) && d.name == n && d.sort == s);
                if (like && free) {
                    moves.add(new D(10, type, n, s, goal, method ? 1 : 0));
                    break;
                }
            }
        }
        return moves;
    }

    List<D> differences(E a, E b) {
        List<D> moves = moves(a, b);
        List<D> told = new ArrayList<>();
        for (int type = 0; type < 16; type++) {
            T x = a.get(type);
            T y = b.get(type);
            if (x == null && y == null) {
                continue;
            }
            int here = type;
            if (x == null) {
                told.add(new D(2, type, NONE, NONE, NONE, 0));
            } else if (y == null) {
                told.add(new D(1, type, NONE, NONE, NONE, 0));
                moves.stream().filter(d -> d.type == here).forEach(told::add);
            } else {
                boolean[] other = {x.itf != y.itf, x.abs != y.abs, x.pack != y.pack || x.pub != y.pub,
                    x.sup != y.sup, !new TreeSet<>(x.itfs).equals(new TreeSet<>(y.itfs))};
                for (int i = 0; i < other.length; i++) {
                    if (other[i]) {
                        told.add(new D(3 + i, type, NONE, NONE, NONE, 0));
                    }
                }
                for (int slot = 0; slot < 128; slot++) {
                    members(moves, told, x, y, slot);
                }
            }
        }
        return told;
    }

    static void members(List<D> moves, List<D> told, T x, T y, int slot) {
        int method = slot / 64;
        int n = slot / 4 % 16;
        int s = slot % 4;
        M p = x.own(method == 1, n, s);
        M q = y.own(method == 1, n, s);
        if (p != null && q == null) {
            List<D> moved = moves.stream().filter(
                    d -> d.type == x.name && d.method == method && d.name == n && d.sort == s).toList();
            told.add(moved.isEmpty() ? new D(8, x.name, n, s, NONE, method) : moved.get(0));
        }
        if (p == null && q != null && moves.stream().noneMatch(
                d -> d.goal == x.name && d.method == method && d.name == n && d.sort == s)) {
            told.add(new D(9, x.name, n, s, NONE, method));
        }
        if (p != null && q != null) {
            if (p.access != q.access) {
                told.add(new D(11, x.name, n, s, NONE, method));
            }
            if (p.isStatic != q.isStatic) {
                told.add(new D(12, x.name, n, s, NONE, method));
            }
            if (p.body != q.body || p.constant != q.constant) {
                told.add(new D(13, x.name, n, s, NONE, method));
            }
        }
    }

    int differ(int a, int b) {
        at(a);
        at(b);
        return differences(must(a, true), must(b, true)).size();
    }

    int difference(int a, int b, int i, int what) {
        at(a);
        at(b);
        List<D> all = differences(must(a, true), must(b, true));
        if (!in(i, 0, all.size() - 1) || !in(what, 0, 5)) {
            throw new NoSuchElementException();
        }
        D d = all.get(i);
        return new int[] {d.number, d.type, d.name, d.sort, d.goal, d.method}[what];
    }

    /** Every USE that could be WELL in a: of the NAMES and SORTS that a has, all KINDS and PACKAGES. */
    boolean compatible(int a, int b) {
        at(a);
        at(b);
        E e = must(a, true);
        must(b, true);
        Set<List<Integer>> keys = new LinkedHashSet<>();
        keys.add(List.of(0, 0));
        e.types.forEach(t -> t.members.forEach(m -> keys.add(List.of(m.name, m.sort))));
        C c = new C();
        c.edition = a;
        c.sup = NONE;
        for (int kind = 0; kind < 6; kind++) {
            for (c.pack = 0; c.pack < 5; c.pack++) {
                for (T t : e.types) {
                    for (List<Integer> key : keys) {
                        for (T r : e.types) {
                            U u = new U(kind, t.name, key.get(0), key.get(1), r.name);
                            if (meet(c, u, a) == 0 && !List.of(0, 8, 9).contains(meet(c, u, b))) {
                                return false;
                            }
                        }
                    }
                }
            }
        }
        return true;
    }

    int count(int what) {
        return what == 0 ? editions.size() : what == 1 ? callers.size() : NONE;
    }

    int look(int edition, int what) {
        E e = at(edition);
        return switch (what) {
            case 0 -> e.sealed ? 1 : 0;
            case 1 -> e.types.size();
            case 2 -> e.types.stream().mapToInt(t -> t.members.size()).sum();
            default -> NONE;
        };
    }

    int uses(int caller) {
        return callerAt(caller).uses.size();
    }
}
