import java.util.Arrays;
import java.util.NoSuchElementException;

public final class LinkArchive {
    public static final int NONE = -1;

    private static final int NAMES = 16;
    private static final int SORTS = 4;
    private static final int KEYS = NAMES * SORTS;
    private static final int PACKAGES = 4;
    private static final int CALLER_PACKAGES = 5;
    private static final int BODIES = 10;

    private static final int MAX_EDITIONS = 8;
    private static final int MAX_TYPES = 10;
    private static final int MAX_INTERFACES = 3;
    private static final int MAX_MEMBERS = 6;
    private static final int MAX_CALLERS = 12;
    private static final int MAX_USES = 20;
    // Ten types of both editions, each with 5 differences of its own and 3 of each of 6 members.
    private static final int MAX_DIFFERENCES = 230;

    private static final int PRIVATE = 0;
    private static final int PACKAGE = 1;
    private static final int PROTECTED = 2;
    private static final int PUBLIC = 3;

    private static final int A_FIELD = 0;
    private static final int A_METHOD = 1;
    private static final int A_CONSTANT = 2;
    private static final int A_TYPE = 2;

    private static final int FIELD_OF_OBJECT = 0;
    private static final int STATIC_FIELD = 1;
    private static final int METHOD_BY_CLASS = 2;
    private static final int STATIC_METHOD = 3;
    private static final int METHOD_BY_INTERFACE = 4;
    private static final int NEW_OBJECT = 5;

    private static final int WELL = 0;
    private static final int NO_TYPE = 1;
    private static final int NO_MEMBER = 2;
    private static final int NO_ACCESS = 3;
    private static final int STATIC = 4;
    private static final int ABSTRACT = 5;
    private static final int SHAPE = 6;
    private static final int OTHER = 8;
    private static final int OLD = 9;

    private static final int UNKNOWN = 0;
    private static final int BREAKS = 1;
    private static final int FITS = 2;

    private final Edition[] editions = new Edition[MAX_EDITIONS];
    private int editionCount;
    private final Caller[] callers = new Caller[MAX_CALLERS];
    private int callerCount;
    private final Comparison comparison = new Comparison();
    private final Probe probe = new Probe();
    // A sealed edition never changes, so what was worked out of a pair stays right.
    private final int[] fitOfPair = new int[MAX_EDITIONS * MAX_EDITIONS];

    public LinkArchive() {
        for (int i = 0; i < MAX_EDITIONS; i++) {
            editions[i] = new Edition(i);
        }
        for (int i = 0; i < MAX_CALLERS; i++) {
            callers[i] = new Caller();
        }
    }

    // ---- editions and what they have ----

    public int edition() throws UnsupportedOperationException {
        return newEdition().number;
    }

    public int copy(int edition)
            throws IndexOutOfBoundsException, IllegalStateException, UnsupportedOperationException {
        Edition from = sealedEdition(edition);
        Edition fresh = newEdition();
        fresh.takeAll(from);
        return fresh.number;
    }

    public int type(int edition, int name, boolean isInterface, boolean isAbstract, int pack, boolean isPublic,
            int superName) throws IndexOutOfBoundsException, IllegalStateException, IllegalArgumentException,
            UnsupportedOperationException {
        Edition e = openEdition(edition);
        if (!isName(name) || !isBelow(pack, PACKAGES) || !(superName == NONE || isName(superName))) {
            throw new IllegalArgumentException("no such name or package");
        }
        if (isInterface && superName != NONE) {
            throw new IllegalArgumentException("an interface has no super");
        }
        if (e.named(name) != null) {
            throw new IllegalArgumentException("there is a type of that name");
        }
        if (e.typeCount >= MAX_TYPES) {
            throw new UnsupportedOperationException("the edition is full");
        }
        e.addType(name, isInterface, isAbstract, pack, isPublic, superName);
        return e.typeCount;
    }

    public int implement(int edition, int name, int interfaceName) throws IndexOutOfBoundsException,
            IllegalStateException, IllegalArgumentException, UnsupportedOperationException {
        Type t = typeOf(openEdition(edition), name);
        if (!isName(interfaceName) || t.leansOnInterface(interfaceName)) {
            throw new IllegalArgumentException("no such name, or it has it already");
        }
        if (t.interfaceCount >= MAX_INTERFACES) {
            throw new UnsupportedOperationException("the type has all its interfaces");
        }
        t.addInterface(interfaceName);
        return t.interfaceCount;
    }

    public int member(int edition, int type, int what, int name, int sort, int access, boolean isStatic, int body)
            throws IndexOutOfBoundsException, IllegalStateException, IllegalArgumentException,
            UnsupportedOperationException {
        Type t = typeOf(openEdition(edition), type);
        int key = keyOf(name, sort);
        if (key == NONE || !canBe(t, what, access, isStatic, body)) {
            throw new IllegalArgumentException("a member cannot be so");
        }
        if (t.has(what == A_METHOD, key)) {
            throw new IllegalArgumentException("there is one already");
        }
        if (t.memberCount >= MAX_MEMBERS) {
            throw new UnsupportedOperationException("the type is full");
        }
        t.addMember(what, key, access, isStatic, body);
        return t.memberCount;
    }

    public boolean drop(int edition, int type, int what, int name, int sort)
            throws IndexOutOfBoundsException, IllegalStateException {
        Edition e = openEdition(edition);
        Type t = e.named(type);
        if (t == null) {
            return false;
        }
        if (what == A_TYPE) {
            e.dropType(t);
            return true;
        }
        if (what != A_FIELD && what != A_METHOD) {
            return false;
        }
        return t.dropMember(what == A_METHOD, keyOf(name, sort));
    }

    public int seal(int edition) throws IndexOutOfBoundsException, IllegalStateException {
        Edition e = openEdition(edition);
        int wrong = e.firstThatLeansWrong();
        if (wrong == NONE) {
            wrong = e.firstAboveItself();
        }
        if (wrong == NONE) {
            e.isSealed = true;
        }
        return wrong;
    }

    // ---- finding and selection ----

    public boolean above(int edition, int upper, int lower)
            throws IndexOutOfBoundsException, IllegalStateException {
        return sealedEdition(edition).hasAbove(upper, lower);
    }

    public int find(int edition, int type, boolean method, int name, int sort)
            throws IndexOutOfBoundsException, IllegalStateException {
        Edition e = sealedEdition(edition);
        return nameOf(e.found(e.named(type), method, keyOf(name, sort)));
    }

    public int select(int edition, int type, int name, int sort, int receiver)
            throws IndexOutOfBoundsException, IllegalStateException {
        Edition e = sealedEdition(edition);
        return nameOf(e.selected(e.named(type), keyOf(name, sort), e.classNamed(receiver)));
    }

    // ---- callers and their uses ----

    public int caller(int edition, int pack, int superName) throws IndexOutOfBoundsException,
            IllegalStateException, IllegalArgumentException, UnsupportedOperationException {
        Edition e = sealedEdition(edition);
        if (!isBelow(pack, CALLER_PACKAGES)) {
            throw new IllegalArgumentException("no such package");
        }
        if (superName != NONE && e.classNamed(superName) == null) {
            throw new IllegalArgumentException("no such class");
        }
        if (callerCount >= MAX_CALLERS) {
            throw new UnsupportedOperationException("there are all the callers");
        }
        callers[callerCount].begin(edition, pack, superName);
        callerCount++;
        return callerCount - 1;
    }

    public int use(int caller, int kind, int type, int name, int sort, int receiver)
            throws IndexOutOfBoundsException, IllegalArgumentException, UnsupportedOperationException {
        Caller c = callerAt(caller);
        if (!isBelow(kind, NEW_OBJECT + 1)) {
            throw new IllegalArgumentException("no such kind");
        }
        if (c.useCount >= MAX_USES) {
            throw new UnsupportedOperationException("the caller has all its uses");
        }
        Use u = c.uses[c.useCount];
        u.begin(kind, type, keyOf(name, sort), receiver);
        u.rememberOwn(editions[c.edition]);
        if (c.meeting(u, editions[c.edition]) != WELL) {
            return NONE;
        }
        c.useCount++;
        return c.useCount - 1;
    }

    public int foretell(int caller, int edition, int use) throws IndexOutOfBoundsException, IllegalStateException {
        Caller c = callerAt(caller);
        Edition e = editionAt(edition);
        Use u = useAt(c, use);
        refuseOpen(e);
        return c.meeting(u, e);
    }

    public int runs(int caller, int edition, int use) throws IndexOutOfBoundsException, IllegalStateException {
        Caller c = callerAt(caller);
        Edition e = editionAt(edition);
        Use u = useAt(c, use);
        refuseOpen(e);
        int met = c.meeting(u, e);
        if (!u.isOfMethod() || (met != WELL && met != OTHER)) {
            return NONE;
        }
        Type holder = u.holder(e);
        return nameOf(u.hasReceiver() ? u.runner(e, holder) : holder);
    }

    public int copied(int caller, int use) throws IndexOutOfBoundsException {
        return useAt(callerAt(caller), use).copiedValue;
    }

    public int meets(int caller, int edition, int what) throws IndexOutOfBoundsException, IllegalStateException {
        Caller c = callerAt(caller);
        return c.howManyMeet(sealedEdition(edition), what);
    }

    public int best(int caller, boolean oldest) throws IndexOutOfBoundsException {
        Caller c = callerAt(caller);
        int best = NONE;
        for (int i = 0; i < editionCount; i++) {
            boolean better = best == NONE || !oldest;
            if (better && editions[i].isSealed && c.howManyMeet(editions[i], WELL) == c.useCount) {
                best = i;
            }
        }
        return best;
    }

    // ---- two editions ----

    public int differ(int a, int b) throws IndexOutOfBoundsException, IllegalStateException {
        refuseUnfitPair(a, b);
        comparison.compare(editions[a], editions[b]);
        return comparison.count;
    }

    public int difference(int a, int b, int i, int what)
            throws IndexOutOfBoundsException, IllegalStateException, NoSuchElementException {
        refuseUnfitPair(a, b);
        comparison.compare(editions[a], editions[b]);
        if (!isBelow(i, comparison.count) || !isBelow(what, Comparison.COLUMNS)) {
            throw new NoSuchElementException("no such difference");
        }
        return comparison.cell(i, what);
    }

    public boolean compatible(int a, int b) throws IndexOutOfBoundsException, IllegalStateException {
        refuseUnfitPair(a, b);
        int pair = a * MAX_EDITIONS + b;
        if (fitOfPair[pair] == UNKNOWN) {
            fitOfPair[pair] = probe.allFit(editions[a], editions[b]) ? FITS : BREAKS;
        }
        return fitOfPair[pair] == FITS;
    }

    // ---- counts ----

    public int count(int what) {
        switch (what) {
            case 0:
                return editionCount;
            case 1:
                return callerCount;
            default:
                return NONE;
        }
    }

    public int look(int edition, int what) throws IndexOutOfBoundsException {
        Edition e = editionAt(edition);
        switch (what) {
            case 0:
                return e.isSealed ? 1 : 0;
            case 1:
                return e.typeCount;
            case 2:
                return e.countMembers();
            default:
                return NONE;
        }
    }

    public int uses(int caller) throws IndexOutOfBoundsException {
        return callerAt(caller).useCount;
    }

    // ---- what is refused ----

    private Edition newEdition() {
        if (editionCount >= MAX_EDITIONS) {
            throw new UnsupportedOperationException("there are all the editions");
        }
        editionCount++;
        return editions[editionCount - 1];
    }

    private Edition editionAt(int edition) {
        if (!isBelow(edition, editionCount)) {
            throw new IndexOutOfBoundsException("no such edition");
        }
        return editions[edition];
    }

    private Edition openEdition(int edition) {
        Edition e = editionAt(edition);
        if (e.isSealed) {
            throw new IllegalStateException("the edition is sealed");
        }
        return e;
    }

    private Edition sealedEdition(int edition) {
        Edition e = editionAt(edition);
        refuseOpen(e);
        return e;
    }

    private static void refuseOpen(Edition e) {
        if (!e.isSealed) {
            throw new IllegalStateException("the edition is open");
        }
    }

    private void refuseUnfitPair(int a, int b) {
        Edition first = editionAt(a);
        Edition second = editionAt(b);
        refuseOpen(first);
        refuseOpen(second);
    }

    private static Type typeOf(Edition e, int name) {
        Type t = e.named(name);
        if (t == null) {
            throw new IllegalArgumentException("no such type");
        }
        return t;
    }

    private Caller callerAt(int caller) {
        if (!isBelow(caller, callerCount)) {
            throw new IndexOutOfBoundsException("no such caller");
        }
        return callers[caller];
    }

    private static Use useAt(Caller c, int use) {
        if (!isBelow(use, c.useCount)) {
            throw new IndexOutOfBoundsException("no such use");
        }
        return c.uses[use];
    }

    private static boolean canBe(Type t, int what, int access, boolean isStatic, int body) {
        if (!isBelow(what, A_CONSTANT + 1) || !isBelow(access, PUBLIC + 1)) {
            return false;
        }
        if (t.isInterface && (access != PUBLIC || (what != A_METHOD && !isStatic))) {
            return false;
        }
        if (what == A_CONSTANT && !isStatic) {
            return false;
        }
        if (what == A_METHOD && body == NONE) {
            return !isStatic && access != PRIVATE;
        }
        return isBelow(body, BODIES);
    }

    // ---- numbers ----

    private static boolean isBelow(int number, int bound) {
        return number >= 0 && number < bound;
    }

    private static boolean isName(int name) {
        return isBelow(name, NAMES);
    }

    /** A member's NAME and SORT as one number that keeps their order; NONE if one of them is none. */
    private static int keyOf(int name, int sort) {
        return isName(name) && isBelow(sort, SORTS) ? name * SORTS + sort : NONE;
    }

    private static boolean hasBit(long bits, int bit) {
        return ((bits >>> bit) & 1L) != 0L;
    }

    private static int nameOf(Type t) {
        return t == null ? NONE : t.name;
    }

    /** A FIELD or METHOD of a type. */
    private static final class Member {
        boolean isMethod;
        boolean isConstant;
        boolean isStatic;
        int key;
        int access;
        int body;

        void begin(int what, int key, int access, boolean isStatic, int body) {
            this.isMethod = what == A_METHOD;
            this.isConstant = what == A_CONSTANT;
            this.key = key;
            this.access = access;
            this.isStatic = isStatic;
            this.body = body;
        }

        void takeFrom(Member other) {
            isMethod = other.isMethod;
            isConstant = other.isConstant;
            isStatic = other.isStatic;
            key = other.key;
            access = other.access;
            body = other.body;
        }

        boolean isAbstract() {
            return isMethod && body == NONE;
        }

        /** Whether a type below could have it from here and put another one in its place. */
        boolean isHandedDown() {
            return !isStatic && access != PRIVATE;
        }

        boolean hasSameBody(Member other) {
            return body == other.body && isConstant == other.isConstant;
        }

        boolean isLike(Member other) {
            return isMethod == other.isMethod && key == other.key && isStatic == other.isStatic
                    && hasSameBody(other);
        }
    }

    /** A CLASS or INTERFACE of an EDITION. */
    private static final class Type {
        int name;
        boolean isInterface;
        boolean isAbstract;
        int pack;
        boolean isPublic;
        int superName;
        final int[] interfaces = new int[MAX_INTERFACES];
        int interfaceCount;
        final Member[] members = new Member[MAX_MEMBERS];
        int memberCount;
        long fieldKeys;
        long methodKeys;
        // The NAMES above it in the order in which a FIELD is looked for; made by sealing.
        final int[] uppers = new int[MAX_TYPES];
        int upperCount;
        int upperNames;

        Type() {
            for (int i = 0; i < MAX_MEMBERS; i++) {
                members[i] = new Member();
            }
        }

        void begin(int name, boolean isInterface, boolean isAbstract, int pack, boolean isPublic, int superName) {
            this.name = name;
            this.isInterface = isInterface;
            this.isAbstract = isInterface || isAbstract;
            this.pack = pack;
            this.isPublic = isPublic;
            this.superName = superName;
            interfaceCount = 0;
            memberCount = 0;
            fieldKeys = 0L;
            methodKeys = 0L;
            forgetUppers();
        }

        void takeFrom(Type other) {
            begin(other.name, other.isInterface, other.isAbstract, other.pack, other.isPublic, other.superName);
            for (int i = 0; i < other.interfaceCount; i++) {
                interfaces[i] = other.interfaces[i];
            }
            interfaceCount = other.interfaceCount;
            for (int i = 0; i < other.memberCount; i++) {
                members[i].takeFrom(other.members[i]);
            }
            memberCount = other.memberCount;
            fieldKeys = other.fieldKeys;
            methodKeys = other.methodKeys;
        }

        void addInterface(int interfaceName) {
            interfaces[interfaceCount] = interfaceName;
            interfaceCount++;
        }

        boolean leansOnInterface(int interfaceName) {
            for (int i = 0; i < interfaceCount; i++) {
                if (interfaces[i] == interfaceName) {
                    return true;
                }
            }
            return false;
        }

        int interfaceNames() {
            int names = 0;
            for (int i = 0; i < interfaceCount; i++) {
                names |= 1 << interfaces[i];
            }
            return names;
        }

        void addMember(int what, int key, int access, boolean isStatic, int body) {
            members[memberCount].begin(what, key, access, isStatic, body);
            memberCount++;
            turnKey(what == A_METHOD, key);
        }

        boolean dropMember(boolean method, int key) {
            Member gone = own(method, key);
            if (gone == null) {
                return false;
            }
            int kept = 0;
            for (int i = 0; i < memberCount; i++) {
                if (members[i].key != key || members[i].isMethod != method) {
                    members[kept] = members[i];
                    kept++;
                }
            }
            // The row waits behind the others to be used again.
            if (kept < memberCount) {
                members[kept] = gone;
            }
            memberCount = kept;
            turnKey(method, key);
            return true;
        }

        private void turnKey(boolean method, int key) {
            if (method) {
                methodKeys ^= 1L << key;
            } else {
                fieldKeys ^= 1L << key;
            }
        }

        /** The keys of its own FIELDS or METHODS, as bits. */
        long keys(boolean method) {
            return method ? methodKeys : fieldKeys;
        }

        boolean has(boolean method, int key) {
            return key != NONE && (((method ? methodKeys : fieldKeys) >>> key) & 1L) != 0L;
        }

        /** The type's own FIELD or METHOD; null if it has none. */
        Member own(boolean method, int key) {
            for (int i = 0; i < memberCount; i++) {
                if (members[i].key == key && members[i].isMethod == method) {
                    return members[i];
                }
            }
            return null;
        }

        void forgetUppers() {
            upperCount = 0;
            upperNames = 0;
        }

        void addUpper(int upper) {
            if (upperCount < MAX_TYPES) {
                uppers[upperCount] = upper;
                upperCount++;
                upperNames |= 1 << upper;
            }
        }

        boolean isUnder(int upper) {
            return ((upperNames >>> upper) & 1) != 0;
        }
    }

    /** One EDITION: its TYPES in their order, and what is found in them. */
    private static final class Edition {
        final int number;
        boolean isSealed;
        final Type[] types = new Type[MAX_TYPES];
        int typeCount;
        private final Type[] byName = new Type[NAMES];

        Edition(int number) {
            this.number = number;
            for (int i = 0; i < MAX_TYPES; i++) {
                types[i] = new Type();
            }
        }

        /** The type of a NAME; null if there is none. */
        Type named(int name) {
            return name >= 0 && name < NAMES ? byName[name] : null;
        }

        Type classNamed(int name) {
            Type t = named(name);
            return t == null || t.isInterface ? null : t;
        }

        Type interfaceNamed(int name) {
            Type t = named(name);
            return t == null || !t.isInterface ? null : t;
        }

        void addType(int name, boolean isInterface, boolean isAbstract, int pack, boolean isPublic,
                int superName) {
            Type t = types[typeCount];
            t.begin(name, isInterface, isAbstract, pack, isPublic, superName);
            byName[name] = t;
            typeCount++;
        }

        void dropType(Type gone) {
            int kept = 0;
            for (int i = 0; i < typeCount; i++) {
                if (types[i].name != gone.name) {
                    types[kept] = types[i];
                    kept++;
                }
            }
            byName[gone.name] = null;
            // The row waits behind the others to be used again.
            if (kept < typeCount) {
                types[kept] = gone;
            }
            typeCount = kept;
        }

        void takeAll(Edition from) {
            for (int i = 0; i < from.typeCount; i++) {
                types[i].takeFrom(from.types[i]);
                byName[types[i].name] = types[i];
            }
            typeCount = from.typeCount;
        }

        int countMembers() {
            int sum = 0;
            for (int i = 0; i < typeCount; i++) {
                sum += types[i].memberCount;
            }
            return sum;
        }

        // ---- sealing ----

        int firstThatLeansWrong() {
            for (int i = 0; i < typeCount; i++) {
                if (!leansRight(types[i])) {
                    return types[i].name;
                }
            }
            return NONE;
        }

        private boolean leansRight(Type t) {
            if (t.superName != NONE && classNamed(t.superName) == null) {
                return false;
            }
            for (int i = 0; i < t.interfaceCount; i++) {
                if (interfaceNamed(t.interfaces[i]) == null) {
                    return false;
                }
            }
            return true;
        }

        int firstAboveItself() {
            for (int i = 0; i < typeCount; i++) {
                types[i].forgetUppers();
                climb(this, types[i], types[i], 0);
            }
            for (int i = 0; i < typeCount; i++) {
                if (types[i].isUnder(types[i].name)) {
                    return types[i].name;
                }
            }
            return NONE;
        }

        /** Puts to start's uppers all that is above from: the INTERFACES first, as a FIELD is looked for. */
        private static void climb(Edition e, Type start, Type from, int depth) {
            for (int i = 0; i < from.interfaceCount; i++) {
                climbTo(e, start, from.interfaces[i], depth);
            }
            climbTo(e, start, from.superName, depth);
        }

        private static void climbTo(Edition e, Type start, int upper, int depth) {
            Type t = e.named(upper);
            // Each level meets a type that was not met before, so there are no more levels than types.
            if (t == null || start.isUnder(upper) || depth > MAX_TYPES) {
                return;
            }
            start.addUpper(upper);
            climb(e, start, t, depth + 1);
        }

        boolean hasAbove(int upper, int lower) {
            Type t = named(lower);
            return t != null && named(upper) != null && t.isUnder(upper);
        }

        // ---- finding ----

        /** The type whose FIELD or METHOD is found from a type on; null if there is none. */
        Type found(Type from, boolean method, int key) {
            if (from == null || key == NONE) {
                return null;
            }
            if (!method) {
                return holderOfField(from, key);
            }
            Type nearest = nearestWithMethod(from, key);
            if (nearest != null) {
                return nearest;
            }
            int candidates = candidatesOf(from, key);
            Type only = onlyConcrete(candidates, key);
            return only != null ? only : firstOf(candidates);
        }

        private Type holderOfField(Type from, int key) {
            if (from.has(false, key)) {
                return from;
            }
            for (int i = 0; i < from.upperCount; i++) {
                Type t = named(from.uppers[i]);
                if (t != null && t.has(false, key)) {
                    return t;
                }
            }
            return null;
        }

        /** The type itself, or the nearest of its SUPERS, that has a METHOD; null if none has it. */
        private Type nearestWithMethod(Type from, int key) {
            Type t = from;
            for (int step = 0; step < MAX_TYPES && t != null; step++) {
                if (t.has(true, key)) {
                    return t;
                }
                t = named(t.superName);
            }
            return null;
        }

        /** The NAMES of the CANDIDATES among the INTERFACES above a type, as bits. */
        private int candidatesOf(Type from, int key) {
            int candidates = 0;
            int aboveOthers = 0;
            for (int i = 0; i < from.upperCount; i++) {
                Type t = named(from.uppers[i]);
                Member m = t == null || !t.isInterface ? null : t.own(true, key);
                if (m != null && m.isHandedDown()) {
                    candidates |= 1 << t.name;
                    aboveOthers |= t.upperNames;
                }
            }
            return candidates & ~aboveOthers;
        }

        /** The one CANDIDATE that is not ABSTRACT; null if there is none or more than one. */
        private Type onlyConcrete(int candidates, int key) {
            Type only = null;
            for (int i = 0; i < typeCount; i++) {
                Member m = hasBit(candidates, types[i].name) ? types[i].own(true, key) : null;
                if (m != null && !m.isAbstract()) {
                    if (only != null) {
                        return null;
                    }
                    only = types[i];
                }
            }
            return only;
        }

        private Type firstOf(int candidates) {
            for (int i = 0; i < typeCount; i++) {
                if (hasBit(candidates, types[i].name)) {
                    return types[i];
                }
            }
            return null;
        }

        /** The type whose METHOD SELECTION gives; null if it gives none or there is nothing to begin from. */
        Type selected(Type found, int key, Type receiver) {
            Member m = found == null ? null : found.own(true, key);
            if (m == null || receiver == null) {
                return null;
            }
            if (m.access == PRIVATE) {
                return found;
            }
            Type t = receiver;
            for (int step = 0; step < MAX_TYPES && t != null; step++) {
                Member there = t.own(true, key);
                if (there != null && there.isHandedDown() && standsFor(t, found, m)) {
                    return t;
                }
                t = named(t.superName);
            }
            return onlyConcrete(candidatesOf(receiver, key), key);
        }

        private static boolean standsFor(Type t, Type found, Member m) {
            return t.name == found.name || m.access > PACKAGE || t.pack == found.pack;
        }
    }

    /** A USE of a CALLER. */
    private static final class Use {
        int kind;
        int type;
        int key;
        int receiver;
        int copiedValue;
        int ownRunner;

        void begin(int kind, int type, int key, int receiver) {
            this.kind = kind;
            this.type = type;
            this.key = key;
            this.receiver = receiver;
            copiedValue = NONE;
            ownRunner = NONE;
        }

        boolean hasReceiver() {
            return kind == METHOD_BY_CLASS || kind == METHOD_BY_INTERFACE;
        }

        boolean isOfMethod() {
            return kind == METHOD_BY_CLASS || kind == STATIC_METHOD || kind == METHOD_BY_INTERFACE;
        }

        private boolean wantsStatic() {
            return kind == STATIC_FIELD || kind == STATIC_METHOD;
        }

        /** The type in which the member is found; null if there is none. */
        Type holder(Edition e) {
            return e.found(e.named(type), isOfMethod(), key);
        }

        /** The type whose METHOD SELECTION gives for the one that was found; null if there is none. */
        Type runner(Edition e, Type holder) {
            return e.selected(holder, key, e.classNamed(receiver));
        }

        /** Keeps what the CALLER's own EDITION gives. */
        void rememberOwn(Edition own) {
            Type holder = holder(own);
            if (kind == STATIC_FIELD) {
                copiedValue = constantIn(holder);
            }
            if (hasReceiver()) {
                ownRunner = nameOf(runner(own, holder));
            }
        }

        /** The value of the FIELD that was found, if it is a CONSTANT; else NONE. */
        int constantIn(Type holder) {
            Member m = holder == null ? null : holder.own(false, key);
            return m == null || !m.isConstant ? NONE : m.body;
        }

        /** The first that stands against coming to the member, or to the new object. */
        int hindranceToReach(Edition e, Caller c, Type holder) {
            Type t = e.named(type);
            if (t == null || (hasReceiver() && e.named(receiver) == null)) {
                return NO_TYPE;
            }
            if (!t.isPublic && t.pack != c.pack) {
                return NO_ACCESS;
            }
            if (hasReceiver() && t.isInterface != (kind == METHOD_BY_INTERFACE)) {
                return SHAPE;
            }
            if (kind == NEW_OBJECT) {
                return t.isAbstract ? ABSTRACT : WELL;
            }
            Member m = holder == null ? null : holder.own(isOfMethod(), key);
            if (m == null) {
                return NO_MEMBER;
            }
            if (!c.mayTouch(e, holder, m)) {
                return NO_ACCESS;
            }
            return m.isStatic == wantsStatic() ? WELL : STATIC;
        }

        /** The first that stands against running the METHOD that was reached, whoever the CALLER is. */
        int hindranceToRun(Edition e, Type runner) {
            Type r = e.named(receiver);
            if (r == null) {
                return NO_TYPE;
            }
            if (r.isInterface || r.isAbstract || !(receiver == type || e.hasAbove(type, receiver))) {
                return SHAPE;
            }
            Member m = runner == null ? null : runner.own(true, key);
            if (m == null || m.isAbstract()) {
                return ABSTRACT;
            }
            return kind == METHOD_BY_INTERFACE && m.access != PUBLIC ? NO_ACCESS : WELL;
        }
    }

    /** A CALLER with its USES. */
    private static final class Caller {
        int edition;
        int pack;
        int superName;
        final Use[] uses = new Use[MAX_USES];
        int useCount;

        Caller() {
            for (int i = 0; i < MAX_USES; i++) {
                uses[i] = new Use();
            }
        }

        void begin(int edition, int pack, int superName) {
            this.edition = edition;
            this.pack = pack;
            this.superName = superName;
            useCount = 0;
        }

        /** ACCESS to a member that is declared in a type. */
        boolean mayTouch(Edition e, Type holder, Member m) {
            if (m.access == PUBLIC || m.access == PRIVATE) {
                return m.access == PUBLIC;
            }
            if (holder.pack == pack) {
                return true;
            }
            Type t = m.access == PROTECTED ? e.named(superName) : null;
            return t != null && (t.name == holder.name || t.isUnder(holder.name));
        }

        /** What a USE of this CALLER meets with an EDITION. */
        int meeting(Use u, Edition e) {
            Type holder = u.holder(e);
            if (u.copiedValue != NONE && e.number != edition) {
                return u.constantIn(holder) == u.copiedValue ? WELL : OLD;
            }
            int met = u.hindranceToReach(e, this, holder);
            if (met != WELL || !u.hasReceiver()) {
                return met;
            }
            Type runner = u.runner(e, holder);
            met = u.hindranceToRun(e, runner);
            return met == WELL && nameOf(runner) != u.ownRunner ? OTHER : met;
        }

        int howManyMeet(Edition e, int what) {
            int sum = 0;
            for (int i = 0; i < useCount; i++) {
                if (meeting(uses[i], e) == what) {
                    sum++;
                }
            }
            return sum;
        }
    }

    /** Tries on two EDITIONS all USES that a CALLER without a SUPER could make of the first. */
    private static final class Probe {
        private final Caller caller = new Caller();
        private final Use trial = new Use();

        boolean allFit(Edition a, Edition b) {
            for (int i = 0; i < a.typeCount; i++) {
                Type t = a.types[i];
                if (!newObjectsFit(a, b, t) || !membersFit(a, b, t, false) || !membersFit(a, b, t, true)) {
                    return false;
                }
            }
            return true;
        }

        private boolean newObjectsFit(Edition a, Edition b, Type t) {
            trial.begin(NEW_OBJECT, t.name, NONE, NONE);
            return trialFits(a, b, null, null);
        }

        private boolean membersFit(Edition a, Edition b, Type t, boolean method) {
            long keys = keysFrom(a, t, method);
            for (int key = 0; keys != 0L && key < KEYS; key++) {
                Type holder = hasBit(keys, key) ? a.found(t, method, key) : null;
                Member m = holder == null ? null : holder.own(method, key);
                // A CONSTANT is copied: the other EDITION can make it OLD at most.
                if (m != null && !m.isConstant) {
                    // The type stands for its receivers till these are tried one by one.
                    trial.begin(onlyKindFor(t, m), t.name, key, t.name);
                    if (!trialFits(a, b, holder, trial.holder(b))) {
                        return false;
                    }
                }
            }
            return true;
        }

        private static long keysFrom(Edition e, Type t, boolean method) {
            long keys = t.keys(method);
            for (int i = 0; i < t.upperCount; i++) {
                Type upper = e.named(t.uppers[i]);
                if (upper != null) {
                    keys |= upper.keys(method);
                }
            }
            return keys;
        }

        /** The one KIND of which a USE of the member by a type can be WELL. */
        private static int onlyKindFor(Type t, Member m) {
            if (!m.isMethod) {
                return m.isStatic ? STATIC_FIELD : FIELD_OF_OBJECT;
            }
            if (m.isStatic) {
                return STATIC_METHOD;
            }
            return t.isInterface ? METHOD_BY_INTERFACE : METHOD_BY_CLASS;
        }

        /** Whether the trial, of whatever PACKAGE and RECEIVER it is WELL with a, is not broken by b. */
        private boolean trialFits(Edition a, Edition b, Type holder, Type holderThere) {
            boolean anyReaches = false;
            boolean allReach = true;
            for (int pack = 0; pack < CALLER_PACKAGES; pack++) {
                caller.begin(a.number, pack, NONE);
                if (trial.hindranceToReach(a, caller, holder) == WELL) {
                    anyReaches = true;
                    allReach = allReach && trial.hindranceToReach(b, caller, holderThere) == WELL;
                }
            }
            if (!anyReaches || !trial.hasReceiver()) {
                return allReach;
            }
            for (int i = 0; i < a.typeCount; i++) {
                trial.receiver = a.types[i].name;
                Type runner = a.selected(holder, trial.key, a.classNamed(trial.receiver));
                if (trial.hindranceToRun(a, runner) == WELL) {
                    Type runnerThere = b.selected(holderThere, trial.key, b.classNamed(trial.receiver));
                    if (!allReach || trial.hindranceToRun(b, runnerThere) != WELL) {
                        return false;
                    }
                }
            }
            return true;
        }
    }

    /** The DIFFERENCES of two sealed EDITIONS; those of the pair asked for last are kept. */
    private static final class Comparison {
        static final int COLUMNS = 6;

        private static final int TYPE_GONE = 1;
        private static final int TYPE_NEW = 2;
        private static final int OTHER_SHAPE = 3;
        private static final int OTHER_ABSTRACT = 4;
        private static final int OTHER_PLACE = 5;
        private static final int OTHER_SUPER = 6;
        private static final int OTHER_INTERFACES = 7;
        private static final int MEMBER_GONE = 8;
        private static final int MEMBER_NEW = 9;
        private static final int MEMBER_MOVED = 10;
        private static final int OTHER_ACCESS = 11;
        private static final int OTHER_STATIC = 12;
        private static final int OTHER_BODY = 13;

        int count;
        private int first = NONE;
        private int second = NONE;
        private final int[] numbers = new int[MAX_DIFFERENCES];
        private final int[] typeNames = new int[MAX_DIFFERENCES];
        private final int[] keys = new int[MAX_DIFFERENCES];
        private final int[] goals = new int[MAX_DIFFERENCES];
        private final boolean[] ofMethods = new boolean[MAX_DIFFERENCES];
        // Whither a member of the first EDITION moved, by its spot.
        private final int[] whither = new int[2 * NAMES * KEYS];
        // The keys of the second EDITION's members that a move took, by their row.
        private final long[] taken = new long[2 * NAMES];

        void compare(Edition a, Edition b) {
            if (first == a.number && second == b.number) {
                return;
            }
            first = a.number;
            second = b.number;
            count = 0;
            Arrays.fill(whither, NONE);
            Arrays.fill(taken, 0L);
            for (int name = 0; name < NAMES; name++) {
                Type t = a.named(name);
                if (t != null) {
                    takeMoves(a, b, t, false);
                    takeMoves(a, b, t, true);
                }
            }
            for (int name = 0; name < NAMES; name++) {
                tellType(a.named(name), b.named(name));
            }
        }

        int cell(int i, int column) {
            switch (column) {
                case 0:
                    return numbers[i];
                case 1:
                    return typeNames[i];
                case 2:
                    return keys[i] == NONE ? NONE : keys[i] / SORTS;
                case 3:
                    return keys[i] == NONE ? NONE : keys[i] % SORTS;
                case 4:
                    return goals[i];
                default:
                    return ofMethods[i] ? 1 : 0;
            }
        }

        private static int rowOf(int typeName, boolean method) {
            return typeName * 2 + (method ? 1 : 0);
        }

        private static int spotOf(int typeName, boolean method, int key) {
            return rowOf(typeName, method) * KEYS + key;
        }

        // ---- moves ----

        private void takeMoves(Edition a, Edition b, Type t, boolean method) {
            Type later = b.named(t.name);
            long gone = t.keys(method) & ~(later == null ? 0L : later.keys(method));
            for (int key = 0; gone != 0L && key < KEYS; key++) {
                Member m = hasBit(gone, key) ? t.own(method, key) : null;
                if (m != null) {
                    takeMove(a, b, t, m);
                }
            }
        }

        private void takeMove(Edition a, Edition b, Type t, Member m) {
            for (int name = 0; name < NAMES; name++) {
                if (areAkin(a, b, t.name, name) && isGoal(a.named(name), b.named(name), m)) {
                    whither[spotOf(t.name, m.isMethod, m.key)] = name;
                    taken[rowOf(name, m.isMethod)] |= 1L << m.key;
                    return;
                }
            }
        }

        private static boolean areAkin(Edition a, Edition b, int one, int other) {
            return a.hasAbove(one, other) || a.hasAbove(other, one) || b.hasAbove(one, other)
                    || b.hasAbove(other, one);
        }

        private boolean isGoal(Type before, Type later, Member m) {
            if (later == null || (before != null && before.has(m.isMethod, m.key))) {
                return false;
            }
            Member there = later.own(m.isMethod, m.key);
            return there != null && there.isLike(m) && !hasBit(taken[rowOf(later.name, m.isMethod)], m.key);
        }

        // ---- telling ----

        private void tell(int number, int typeName, boolean method, int key, int goal) {
            if (count < MAX_DIFFERENCES) {
                numbers[count] = number;
                typeNames[count] = typeName;
                ofMethods[count] = method;
                keys[count] = key;
                goals[count] = goal;
                count++;
            }
        }

        private void tellOfType(int number, Type t) {
            tell(number, t.name, false, NONE, NONE);
        }

        private void tellType(Type ta, Type tb) {
            if (ta != null && tb != null) {
                tellChangedType(ta, tb);
                tellMembers(ta, tb, false);
                tellMembers(ta, tb, true);
            } else if (ta != null) {
                tellOfType(TYPE_GONE, ta);
                tellMoves(ta, false);
                tellMoves(ta, true);
            } else if (tb != null) {
                tellOfType(TYPE_NEW, tb);
            }
        }

        private void tellChangedType(Type ta, Type tb) {
            if (ta.isInterface != tb.isInterface) {
                tellOfType(OTHER_SHAPE, ta);
            }
            if (ta.isAbstract != tb.isAbstract) {
                tellOfType(OTHER_ABSTRACT, ta);
            }
            if (ta.pack != tb.pack || ta.isPublic != tb.isPublic) {
                tellOfType(OTHER_PLACE, ta);
            }
            if (ta.superName != tb.superName) {
                tellOfType(OTHER_SUPER, ta);
            }
            if (ta.interfaceNames() != tb.interfaceNames()) {
                tellOfType(OTHER_INTERFACES, ta);
            }
        }

        private void tellMoves(Type ta, boolean method) {
            long had = ta.keys(method);
            for (int key = 0; had != 0L && key < KEYS; key++) {
                int goal = hasBit(had, key) ? whither[spotOf(ta.name, method, key)] : NONE;
                if (goal != NONE) {
                    tell(MEMBER_MOVED, ta.name, method, key, goal);
                }
            }
        }

        private void tellMembers(Type ta, Type tb, boolean method) {
            long either = ta.keys(method) | tb.keys(method);
            for (int key = 0; either != 0L && key < KEYS; key++) {
                if (hasBit(either, key)) {
                    tellMember(ta, tb, method, key);
                }
            }
        }

        private void tellMember(Type ta, Type tb, boolean method, int key) {
            Member ma = ta.own(method, key);
            Member mb = tb.own(method, key);
            if (ma != null && mb != null) {
                tellChangedMember(ta.name, ma, mb);
            } else if (ma != null) {
                int goal = whither[spotOf(ta.name, method, key)];
                tell(goal == NONE ? MEMBER_GONE : MEMBER_MOVED, ta.name, method, key, goal);
            } else if (mb != null && !hasBit(taken[rowOf(tb.name, method)], key)) {
                tell(MEMBER_NEW, tb.name, method, key, NONE);
            }
        }

        private void tellChangedMember(int typeName, Member ma, Member mb) {
            if (ma.access != mb.access) {
                tell(OTHER_ACCESS, typeName, ma.isMethod, ma.key, NONE);
            }
            if (ma.isStatic != mb.isStatic) {
                tell(OTHER_STATIC, typeName, ma.isMethod, ma.key, NONE);
            }
            if (!ma.hasSameBody(mb)) {
                tell(OTHER_BODY, typeName, ma.isMethod, ma.key, NONE);
            }
        }
    }
}
