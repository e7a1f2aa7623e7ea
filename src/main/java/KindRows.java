/**
 * Figures of several kinds, made whole or not at all, what is known of them (parts, weight, order,
 * hash, tags in families), and constants by name with values by their keys.
 */
public final class KindRows {
    public static final int NONE = -1, BAD = -2, FULL = -3, FAILED = -4;

    private static final int POINT = 0, SPAN = 1, WIDE = 2, SHARE = 3, PAIR = 4, ROW = 5, SHELF = 6;
    private static final int NULL = 1, INDEX = 2, CAST = 3, STORE = 4, SIZE = 5, ZERO = 6, OWN = 7;

    private static final int MOST_NUMBERS = 12, MOST_PLACES = 12, MOST_FAMILIES = 6;
    private static final int MOST_CONSTANTS = 60, ENUMERATIONS = 4, NAMES = 10000;
    private static final long MULTIPLIER = 48271, MODULUS = 2147483647;

    /** The bits of a double without its sign. */
    private static final long ALL_BUT_SIGN = 0x7fffffffffffffffL;

    /** What a call for a 64-bit number answers when there is none. */
    private static final long NO_NUMBER = -3000000000000000000L;

    private final Failures failures = new Failures();
    private final Figures figures = new Figures();
    private final int[] numbers = new int[MOST_NUMBERS];
    private int laid = 0;
    private final Family[] families = new Family[MOST_FAMILIES];
    private int familyCount = 0;
    private final Constant[] constants = new Constant[MOST_CONSTANTS];
    private int constantCount = 0;
    private final Enumeration[] enumerations = new Enumeration[ENUMERATIONS];
    private final Keys keys = new Keys();
    private long link = 1;

    public KindRows() {
        for (int i = 0; i < ENUMERATIONS; i++) {
            enumerations[i] = new Enumeration();
        }
    }

    // ---- failures and numbers

    public int cause(int what) {
        switch (what) {
            case 0: return failures.latest;
            case 1: return failures.latestPart;
            case 2: return failures.latestOwn;
            default: return BAD;
        }
    }

    public int lay(int v) {
        if (laid >= MOST_NUMBERS) {
            return FULL;
        }
        numbers[laid] = v;
        laid++;
        return laid;
    }

    public int wipe() {
        int had = laid;
        laid = 0;
        return had;
    }

    // ---- the making of figures

    public int point(long x, long y) {
        failures.none();
        if (figures.isFull()) {
            return FULL;
        }
        return figures.add(new Figure(POINT, new long[] {oneNan(x), oneNan(y)}, 1));
    }

    public int span(int low, int high) {
        failures.none();
        if (figures.isFull()) {
            return FULL;
        }
        if (low > high) {
            return failures.own(1, 1);
        }
        return figures.add(new Figure(SPAN, new long[] {low, high}, lengthOf(low, high)));
    }

    public int wide(int low, int high, int step) {
        failures.none();
        if (figures.isFull()) {
            return FULL;
        }
        if (low > high) {
            return failures.own(1, 1);
        }
        if (step == 0) {
            return failures.inPart(ZERO, 2);
        }
        if ((high - low) % step != 0) {
            return failures.own(2, 2);
        }
        long weight = lengthOf(low, high) / Math.abs((long) step) + 1;
        return figures.add(new Figure(WIDE, new long[] {low, high, step}, weight));
    }

    public int share(long n, long d) {
        failures.none();
        if (figures.isFull()) {
            return FULL;
        }
        if (d == 0) {
            return failures.inPart(ZERO, 1);
        }
        long quotient = n / d;
        return figures.add(new Figure(SHARE, new long[] {n, d, quotient}, quotient));
    }

    public int pair(int left, int right) {
        failures.none();
        if (!figures.hasOrNone(left) || !figures.hasOrNone(right)) {
            return BAD;
        }
        if (figures.isFull()) {
            return FULL;
        }
        if (left == NONE) {
            return failures.inPart(NULL, 0);
        }
        // its weight may change with the shelves in it: it is found when it is asked for
        return figures.add(new Figure(PAIR, new long[] {left, right}, 0));
    }

    public int row(int m, int k) {
        failures.none();
        if (m > MOST_NUMBERS) {
            return BAD;
        }
        if (figures.isFull()) {
            return FULL;
        }
        if (m < 0) {
            return failures.inPart(SIZE, 0);
        }
        if (k < 0 || k >= m) {
            return failures.inPart(INDEX, 1);
        }
        int item = numberAt(k);
        return figures.add(new Figure(ROW, rowParts(m, k, item), item));
    }

    public int shelf(boolean wide, int n) {
        failures.none();
        if (n > MOST_PLACES) {
            return BAD;
        }
        if (figures.isFull()) {
            return FULL;
        }
        if (n < 0) {
            return failures.inPart(SIZE, 0);
        }
        long[] parts = new long[Figure.FIRST_PLACE + n];
        parts[0] = n;
        for (int i = Figure.FIRST_PLACE; i < parts.length; i++) {
            parts[i] = NONE;
        }
        Figure made = new Figure(SHELF, parts, 0);
        made.wideAlone = wide;
        return figures.add(made);
    }

    // ---- shelves

    public int set(int shelf, int i, int figure) {
        failures.none();
        Figure holder = figures.find(shelf);
        Figure held = figures.find(figure);
        if (holder == null || !figures.hasOrNone(figure)) {
            return BAD;
        }
        if (holder.kind != SHELF || (held != null && !held.isOf(SPAN))) {
            return failures.inNoPart(CAST);
        }
        if (!holder.hasPlace(i)) {
            return failures.inNoPart(INDEX);
        }
        if (holder.wideAlone && held != null && !held.isOf(WIDE)) {
            return failures.inNoPart(STORE);
        }
        holder.hold(i, figure);
        return 1;
    }

    public int at(int shelf, int i) {
        failures.none();
        Figure holder = figures.find(shelf);
        if (holder == null) {
            return BAD;
        }
        if (holder.kind != SHELF) {
            return failures.inNoPart(CAST);
        }
        if (!holder.hasPlace(i)) {
            return failures.inNoPart(INDEX);
        }
        return (int) holder.parts[Figure.FIRST_PLACE + i];
    }

    // ---- what is known of a figure

    public int kind(int figure) {
        Figure known = figures.find(figure);
        return known == null ? BAD : known.kind;
    }

    public int parts(int figure) {
        Figure known = figures.find(figure);
        return known == null ? BAD : known.parts.length;
    }

    public long part(int figure, int k) {
        Figure known = figures.find(figure);
        if (known == null || k < 0 || k >= known.parts.length) {
            return NO_NUMBER;
        }
        return known.parts[k];
    }

    public long weight(int figure, boolean heavy) {
        Figure known = figures.find(figure);
        if (known == null) {
            return NO_NUMBER;
        }
        figures.weighPairs();
        return heavy ? known.heavyWeight() : known.weight;
    }

    public int equal(int a, int b) {
        Figure one = figures.find(a);
        Figure other = figures.find(b);
        if (one == null || other == null) {
            return BAD;
        }
        return one.isLike(other) ? 1 : 0;
    }

    public int hash(int figure) {
        Figure known = figures.find(figure);
        return known == null ? 0 : known.hash;
    }

    public int order(int a, int b) {
        Figure one = figures.find(a);
        Figure other = figures.find(b);
        if (one == null || other == null) {
            return BAD;
        }
        return Integer.compare(one.before, other.before);
    }

    public int ranked(int k) {
        return k < 0 ? BAD : figures.numberRanked(k);
    }

    public int first(int figure) {
        Figure known = figures.find(figure);
        return known == null ? BAD : figures.firstLike(known);
    }

    // ---- families

    public int family(int a, int b, int c, int d) {
        int[] told = {a, b, c, d};
        if (!areKindsOnce(told)) {
            return BAD;
        }
        if (familyCount >= MOST_FAMILIES) {
            return FULL;
        }
        families[familyCount] = new Family(told);
        familyCount++;
        return familyCount - 1;
    }

    public int tag(int family, int figure) {
        Family asked = findFamily(family);
        Figure known = figures.find(figure);
        if (asked == null || known == null) {
            return BAD;
        }
        return asked.tagOf(known);
    }

    public int tagged(int family, int tag) {
        Family asked = findFamily(family);
        if (asked == null || tag < NONE || tag >= Family.MOST_KINDS) {
            return BAD;
        }
        int found = 0;
        for (int i = 0; i < figures.count; i++) {
            Figure known = figures.find(i);
            if (known != null && asked.tagOf(known) == tag) {
                found++;
            }
        }
        return found;
    }

    // ---- constants and their order

    public int constant(int enumeration, int name) {
        Enumeration asked = findEnumeration(enumeration);
        if (asked == null || name < 0 || name >= NAMES || memberNamed(asked, name) != NONE) {
            return BAD;
        }
        if (constantCount >= MOST_CONSTANTS) {
            return FULL;
        }
        int number = constantCount;
        constants[number] = new Constant(enumeration, name);
        constantCount++;
        asked.append(number);
        return number;
    }

    public int named(int enumeration, int name) {
        failures.none();
        Enumeration asked = findEnumeration(enumeration);
        if (asked == null) {
            return BAD;
        }
        int number = memberNamed(asked, name);
        return number == NONE ? failures.inNoPart(NULL) : number;
    }

    public int drop(int constant) {
        Enumeration home = homeOf(constant);
        int place = home == null ? NONE : home.placeOf(constant);
        if (place == NONE) {
            return BAD;
        }
        home.remove(place);
        return home.size;
    }

    public int reorder(int enumeration) {
        Enumeration asked = findEnumeration(enumeration);
        if (asked == null) {
            return BAD;
        }
        for (int i = asked.size - 1; i >= 1; i--) {
            asked.exchange(i, drawBelow(i + 1));
        }
        return asked.size;
    }

    public int seed(int seed) {
        if (seed < 1 || seed >= MODULUS) {
            return BAD;
        }
        int was = (int) link;
        link = seed;
        return was;
    }

    public int told(int constant, int what) {
        Constant known = findConstant(constant);
        Enumeration home = homeOf(constant);
        if (known == null || home == null) {
            return BAD;
        }
        switch (what) {
            case 0: return known.enumeration;
            case 1: return known.name;
            case 2: return home.placeOf(constant);
            default: return BAD;
        }
    }

    public int placed(int enumeration, int place) {
        Enumeration asked = findEnumeration(enumeration);
        if (asked == null || place < 0) {
            return BAD;
        }
        return place < asked.size ? asked.members[place] : NONE;
    }

    // ---- keys

    public int put(int constant, int v) {
        Constant known = findConstant(constant);
        return known == null ? BAD : keys.store(keyOf(known), v);
    }

    public int get(int constant) {
        Constant known = findConstant(constant);
        return known == null ? 0 : keys.valueOf(keyOf(known));
    }

    // ---- counts

    public int count(int what) {
        switch (what) {
            case 0: return figures.count;
            case 1: return laid;
            case 2: return familyCount;
            case 3: return membersOfAll();
            case 4: return keys.size;
            default: return failures.everOf(what - 10);
        }
    }

    // ---- helpers of the face

    /** What is not a number has many bit patterns, and is told by one of them alone. */
    private static long oneNan(long bits) {
        boolean nan = (bits & ALL_BUT_SIGN) > 0x7ff0000000000000L;
        return nan ? 0x7ff8000000000000L : bits;
    }

    private static long lengthOf(int low, int high) {
        return (long) high - low + 1;
    }

    /** What an earlier wipe left in the array is no number any more. */
    private int numberAt(int i) {
        return i >= 0 && i < laid ? numbers[i] : 0;
    }

    private long[] rowParts(int m, int k, int item) {
        long[] parts = new long[Figure.FIRST_ITEM + m];
        parts[0] = m;
        parts[Figure.K] = k;
        parts[Figure.ITEM_AT_K] = item;
        for (int i = 0; i < m; i++) {
            parts[Figure.FIRST_ITEM + i] = numberAt(i);
        }
        return parts;
    }

    private static boolean areKindsOnce(int[] told) {
        int seen = 0;
        for (int kind : told) {
            if (kind == NONE) {
                continue;
            }
            if (kind < POINT || kind > SHELF || (seen >> kind & 1) != 0) {
                return false;
            }
            seen |= 1 << kind;
        }
        return true;
    }

    private Family findFamily(int number) {
        return number >= 0 && number < familyCount ? families[number] : null;
    }

    private Constant findConstant(int number) {
        return number >= 0 && number < constantCount ? constants[number] : null;
    }

    private Enumeration findEnumeration(int number) {
        return number >= 0 && number < ENUMERATIONS ? enumerations[number] : null;
    }

    /** The enumeration that a constant is of, or was of before it was gone. */
    private Enumeration homeOf(int constant) {
        Constant known = findConstant(constant);
        return known == null ? null : findEnumeration(known.enumeration);
    }

    private int memberNamed(Enumeration home, int name) {
        for (int i = 0; i < home.size; i++) {
            Constant member = findConstant(home.members[i]);
            if (member != null && member.name == name) {
                return home.members[i];
            }
        }
        return NONE;
    }

    private int membersOfAll() {
        int sum = 0;
        for (Enumeration each : enumerations) {
            sum += each.size;
        }
        return sum;
    }

    private int drawBelow(int n) {
        link = link * MULTIPLIER % MODULUS;
        return n <= 0 ? 0 : (int) (link % n);
    }

    /** By enumeration and name, not by number: a constant that is made anew has the old one's key. */
    private static int keyOf(Constant constant) {
        return constant.enumeration * NAMES + constant.name;
    }

    /** The failure of the latest call that could fail, and how many there were of each kind. */
    private static final class Failures {
        private int latest = 0;
        private int latestPart = NONE;
        private int latestOwn = 0;
        private final int[] ever = new int[OWN + 1];

        /** Each call that could fail begins with this: it has not failed so far. */
        void none() {
            latest = 0;
            latestPart = NONE;
            latestOwn = 0;
        }

        int own(int number, int part) {
            latestOwn = number;
            return inPart(OWN, part);
        }

        int inNoPart(int failure) {
            return inPart(failure, NONE);
        }

        int inPart(int failure, int part) {
            latest = failure;
            latestPart = part;
            ever[failure]++;
            return FAILED;
        }

        int everOf(int failure) {
            return failure >= NULL && failure <= OWN ? ever[failure] : BAD;
        }
    }

    /** One figure. Its parts stand as part() tells them, figures among them by their numbers. */
    private static final class Figure {
        static final int K = 1, ITEM_AT_K = 2, FIRST_ITEM = 3, FIRST_PLACE = 1;

        private final int kind;
        private final long[] parts;
        private long weight;
        private boolean wideAlone = false;
        private int number = NONE;
        private int hash = 0;
        /** How many figures are before it by order: just the like ones have the same here. */
        private int before = 0;

        Figure(int kind, long[] parts, long weight) {
            this.kind = kind;
            this.parts = parts;
            this.weight = weight;
        }

        boolean isOf(int asked) {
            return kind == asked || (kind == WIDE && asked == SPAN);
        }

        /** Order finds alike just what is equal, so that one walk serves both. */
        boolean isLike(Figure other) {
            return before == other.before;
        }

        boolean hasPlace(int i) {
            return i >= 0 && i < parts.length - FIRST_PLACE;
        }

        void hold(int i, int figure) {
            if (parts[FIRST_PLACE + i] != NONE) {
                weight--;
            }
            if (figure != NONE) {
                weight++;
            }
            parts[FIRST_PLACE + i] = figure;
        }

        long heavyWeight() {
            if (kind == PAIR) {
                return weight;
            }
            long once = 2 * weight + 1;
            return isOf(SPAN) ? 3 * once : once;
        }
    }

    /** All figures by number, and in their order. */
    private static final class Figures {
        static final int MOST = 60;

        private final Figure[] all = new Figure[MOST];
        private final Figure[] ranking = new Figure[MOST];
        private int count = 0;

        boolean isFull() {
            return count >= MOST;
        }

        Figure find(long number) {
            return number >= 0 && number < count ? all[(int) number] : null;
        }

        boolean hasOrNone(int number) {
            return number == NONE || find(number) != null;
        }

        /** Asked only when isFull() was looked at. */
        int add(Figure made) {
            made.number = count;
            made.hash = hashOf(made);
            rank(made);
            all[count] = made;
            count++;
            return made.number;
        }

        /** The parts of a pair have lower numbers than it: going upwards, each is weighed just once. */
        void weighPairs() {
            for (int i = 0; i < count; i++) {
                Figure pair = all[i];
                if (pair.kind == PAIR) {
                    Figure left = find(pair.parts[0]);
                    Figure right = find(pair.parts[1]);
                    pair.weight = (left == null ? 0 : left.heavyWeight()) + (right == null ? 0 : right.weight);
                }
            }
        }

        int numberRanked(int k) {
            return k >= 0 && k < count ? ranking[k].number : NONE;
        }

        int firstLike(Figure known) {
            for (int i = 0; i < known.number; i++) {
                if (all[i].isLike(known)) {
                    return i;
                }
            }
            return known.number;
        }

        private int hashOf(Figure made) {
            if (made.kind == SHELF) {
                return 31 * made.kind + made.number;
            }
            int hash = made.kind;
            for (long part : made.parts) {
                hash = 31 * hash + (made.kind == PAIR ? hashOfNumbered(part) : (int) (part ^ part >>> 32));
            }
            return hash;
        }

        private int hashOfNumbered(long number) {
            Figure known = find(number);
            return known == null ? 0 : known.hash;
        }

        /**
         * Puts a new figure behind all that are before it or like it. The place is found first: pairs
         * are compared by what stands in before, which must not be half changed meanwhile.
         */
        private void rank(Figure made) {
            int place = count;
            while (place > 0 && compare(ranking[place - 1], made) > 0) {
                place--;
            }
            boolean like = place > 0 && compare(ranking[place - 1], made) == 0;
            made.before = like ? ranking[place - 1].before : place;
            for (int i = count; i > place; i--) {
                ranking[i] = ranking[i - 1];
                ranking[i].before++;
            }
            ranking[place] = made;
        }

        /** Below 0, 0, above 0, as a is before b, like it, behind it. */
        private int compare(Figure a, Figure b) {
            if (a.kind != b.kind) {
                return Integer.compare(a.kind, b.kind);
            }
            if (a.kind == SHELF) {
                return Integer.compare(a.number, b.number);
            }
            // a beginning is less whatever stands at k: with that, one order of all rows begins with their items
            int sign = compareFrom(a.kind == ROW ? Figure.FIRST_ITEM : 0, a, b);
            return sign == 0 && a.kind == ROW ? compareAtK(a, b) : sign;
        }

        /** For rows whose items are alike. */
        private static int compareAtK(Figure a, Figure b) {
            int sign = Long.compare(a.parts[Figure.ITEM_AT_K], b.parts[Figure.ITEM_AT_K]);
            return sign != 0 ? sign : Long.compare(a.parts[Figure.K], b.parts[Figure.K]);
        }

        /** By the parts from one on; if one figure's are a beginning of the other's, it is less. */
        private int compareFrom(int from, Figure a, Figure b) {
            int until = Math.min(a.parts.length, b.parts.length);
            for (int i = from; i < until; i++) {
                int sign = Long.compare(sortKey(a.kind, a.parts[i]), sortKey(b.kind, b.parts[i]));
                if (sign != 0) {
                    return sign;
                }
            }
            return Integer.compare(a.parts.length, b.parts.length);
        }

        private long sortKey(int kind, long part) {
            if (kind == POINT) {
                // the bits below the sign of a negative double grow as it falls
                return part < 0 ? part ^ ALL_BUT_SIGN : part;
            }
            if (kind == PAIR) {
                Figure known = find(part);
                return known == null ? NONE : known.before;
            }
            return part;
        }
    }

    /** Kinds, those alone that were told, in the order of their telling. */
    private static final class Family {
        static final int MOST_KINDS = 4;

        private final int[] kinds = new int[MOST_KINDS];
        private int size = 0;

        Family(int[] told) {
            for (int i = 0; i < told.length && size < MOST_KINDS; i++) {
                if (told[i] != NONE) {
                    kinds[size] = told[i];
                    size++;
                }
            }
        }

        int tagOf(Figure figure) {
            int tag = NONE;
            for (int i = 0; i < size; i++) {
                if (kinds[i] == figure.kind) {
                    return i;
                }
                if (figure.isOf(kinds[i])) {
                    tag = i;
                }
            }
            return tag;
        }
    }

    private static final class Constant {
        private final int enumeration;
        private final int name;

        Constant(int enumeration, int name) {
            this.enumeration = enumeration;
            this.name = name;
        }
    }

    /** The numbers of the constants that are not gone, in their order. */
    private static final class Enumeration {
        private final int[] members = new int[MOST_CONSTANTS];
        private int size = 0;

        /** There are no more members than constants, so that the array has room. */
        void append(int constant) {
            members[size] = constant;
            size++;
        }

        void remove(int place) {
            size--;
            for (int i = place; i < size; i++) {
                members[i] = members[i + 1];
            }
        }

        int placeOf(int constant) {
            for (int i = 0; i < size; i++) {
                if (members[i] == constant) {
                    return i;
                }
            }
            return NONE;
        }

        void exchange(int i, int j) {
            int kept = members[i];
            members[i] = members[j];
            members[j] = kept;
        }
    }

    /** Values by keys; they stay when the constant of a key is gone. */
    private static final class Keys {
        static final int MOST = 40;

        private final int[] known = new int[MOST];
        private final int[] values = new int[MOST];
        private int size = 0;

        /** 1 if the key had a value before, else 0. */
        int store(int key, int value) {
            int place = placeOf(key);
            if (place != NONE) {
                values[place] = value;
                return 1;
            }
            if (size >= MOST) {
                return FULL;
            }
            known[size] = key;
            values[size] = value;
            size++;
            return 0;
        }

        int valueOf(int key) {
            int place = placeOf(key);
            return place == NONE ? 0 : values[place];
        }

        private int placeOf(int key) {
            for (int i = 0; i < size; i++) {
                if (known[i] == key) {
                    return i;
                }
            }
            return NONE;
        }
    }
}
