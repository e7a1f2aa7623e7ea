import java.util.ArrayList;
import java.util.Arrays;
import java.util.HashMap;
import java.util.List;
import java.util.Map;
import java.util.Objects;

/**
 * The document written a second time, as plainly as the Java library lets it be: figures are objects, checks
 * fail in the machine's own way, likeness and order walk down the parts. ModelTest holds the program against it.
 */
final class Model {
    static final int NONE = -1, BAD = -2, FULL = -3, FAILED = -4;
    static final long NO_NUMBER = -3000000000000000000L;

    static class OwnFailure extends RuntimeException {
        final int number;

        OwnFailure(int number) {
            this.number = number;
        }
    }

    abstract static class Figure {
        int number;

        abstract int kind();

        /** Each a Double, an Integer, a Long, a Figure or null. */
        abstract List<Object> parts();

        abstract long weight();

        long heavy() {
            return 2 * weight() + 1;
        }
    }

    static final class Point extends Figure {
        final double x;
        final double y;

        Point(long x, long y) {
            this.x = Double.longBitsToDouble(x);
            this.y = Double.longBitsToDouble(y);
        }

        int kind() {
            return 0;
        }

        List<Object> parts() {
            return Arrays.asList(x, y);
        }

        long weight() {
            return 1;
        }
    }

    static class Span extends Figure {
        final int low;
        final int high;

        Span(int low, int high, int[] part) {
            part[0] = 1;
            if (low > high) {
                throw new OwnFailure(1);
            }
            this.low = low;
            this.high = high;
        }

        int kind() {
            return 1;
        }

        List<Object> parts() {
            return Arrays.asList(low, high);
        }

        long weight() {
            return (long) high - (long) low + 1;
        }

        long heavy() {
            return 3 * super.heavy();
        }
    }

    static final class Wide extends Span {
        final int step;

        Wide(int low, int high, int step, int[] part) {
            super(low, high, part);
            part[0] = 2;
            if ((high - low) % step != 0) {
                throw new OwnFailure(2);
            }
            this.step = step;
        }

        int kind() {
            return 2;
        }

        List<Object> parts() {
            return Arrays.asList(low, high, step);
        }

        long weight() {
            return super.weight() / Math.abs((long) step) + 1;
        }
    }

    static final class Share extends Figure {
        final long n;
        final long d;
        final long quotient;

        Share(long n, long d, int[] part) {
            part[0] = 1;
            this.n = n;
            this.d = d;
            this.quotient = n / d;
        }

        int kind() {
            return 3;
        }

        List<Object> parts() {
            return Arrays.asList(n, d, quotient);
        }

        long weight() {
            return quotient;
        }
    }

    static final class Pair extends Figure {
        final Figure left;
        final Figure right;

        Pair(Figure left, Figure right, int[] part) {
            part[0] = 0;
            this.left = Objects.requireNonNull(left);
            this.right = right;
        }

        int kind() {
            return 4;
        }

        List<Object> parts() {
            return Arrays.asList(left, right);
        }

        long weight() {
            return left.heavy() + (right == null ? 0 : right.weight());
        }

        long heavy() {
            return weight();
        }
    }

    static final class Row extends Figure {
        final int[] items;
        final int k;
        final int item;

        Row(int m, int k, List<Integer> numbers, int[] part) {
            part[0] = 0;
            items = new int[m];
            for (int i = 0; i < m && i < numbers.size(); i++) {
                items[i] = numbers.get(i);
            }
            part[0] = 1;
            this.k = k;
            item = items[k];
        }

        int kind() {
            return 5;
        }

        List<Object> parts() {
            List<Object> all = new ArrayList<>(List.of(items.length, k, item));
            for (int each : items) {
                all.add(each);
            }
            return all;
        }

        long weight() {
            return item;
        }
    }

    static final class Shelf extends Figure {
        final Span[] places;

        Shelf(boolean wide, int n, int[] part) {
            part[0] = 0;
            places = wide ? new Wide[n] : new Span[n];
        }

        int kind() {
            return 6;
        }

        List<Object> parts() {
            List<Object> all = new ArrayList<>(List.of(places.length));
            all.addAll(Arrays.asList(places));
            return all;
        }

        long weight() {
            return Arrays.stream(places).filter(Objects::nonNull).count();
        }
    }

    static final class Constant {
        final int number;
        final int enumeration;
        final int name;

        Constant(int number, int enumeration, int name) {
            this.number = number;
            this.enumeration = enumeration;
            this.name = name;
        }
    }

    interface Making {
        Figure make(int[] part);
    }

    interface Answering {
        int answer();
    }

    private final List<Figure> figures = new ArrayList<>();
    private final List<Integer> numbers = new ArrayList<>();
    private final List<List<Integer>> families = new ArrayList<>();
    private final List<Constant> constants = new ArrayList<>();
    private final List<List<Constant>> enumerations =
        List.of(new ArrayList<>(), new ArrayList<>(), new ArrayList<>(), new ArrayList<>());
    private final Map<List<Integer>, Integer> keys = new HashMap<>();
    private final int[] ever = new int[8];
    private int[] cause = {0, NONE, 0};
    private long link = 1;

    private boolean has(int figure) {
        return figure >= 0 && figure < figures.size();
    }

    private Figure figure(int number) {
        return number == NONE ? null : figures.get(number);
    }

    private static int failureOf(RuntimeException e) {
        if (e instanceof NullPointerException) {
            return 1;
        }
        if (e instanceof IndexOutOfBoundsException) {
            return 2;
        }
        if (e instanceof ClassCastException) {
            return 3;
        }
        if (e instanceof ArrayStoreException) {
            return 4;
        }
        if (e instanceof NegativeArraySizeException) {
            return 5;
        }
        if (e instanceof ArithmeticException) {
            return 6;
        }
        if (e instanceof OwnFailure) {
            return 7;
        }
        throw e;
    }

    private int failing(Answering call, int[] part) {
        try {
            return call.answer();
        } catch (RuntimeException e) {
            int failure = failureOf(e);
            ever[failure]++;
            cause = new int[] {failure, part[0], e instanceof OwnFailure ? ((OwnFailure) e).number : 0};
            return FAILED;
        }
    }

    private int make(boolean bad, Making making) {
        cause = new int[] {0, NONE, 0};
        if (bad) {
            return BAD;
        }
        if (figures.size() == 60) {
            return FULL;
        }
        int[] part = {NONE};
        return failing(() -> {
            Figure made = making.make(part);
            made.number = figures.size();
            figures.add(made);
            return made.number;
        }, part);
    }

    int cause(int what) {
        return what < 0 || what > 2 ? BAD : cause[what];
    }

    int lay(int v) {
        if (numbers.size() == 12) {
            return FULL;
        }
        numbers.add(v);
        return numbers.size();
    }

    int wipe() {
        int had = numbers.size();
        numbers.clear();
        return had;
    }

    int point(long x, long y) {
        return make(false, part -> new Point(x, y));
    }

    int span(int low, int high) {
        return make(false, part -> new Span(low, high, part));
    }

    int wide(int low, int high, int step) {
        return make(false, part -> new Wide(low, high, step, part));
    }

    int share(long n, long d) {
        return make(false, part -> new Share(n, d, part));
    }

    int pair(int left, int right) {
        boolean bad = (left != NONE && !has(left)) || (right != NONE && !has(right));
        return make(bad, part -> new Pair(figure(left), figure(right), part));
    }

    int row(int m, int k) {
        return make(m > 12, part -> new Row(m, k, numbers, part));
    }

    int shelf(boolean wide, int n) {
        return make(n > 12, part -> new Shelf(wide, n, part));
    }

    int set(int shelf, int i, int figure) {
        cause = new int[] {0, NONE, 0};
        if (!has(shelf) || (figure != NONE && !has(figure))) {
            return BAD;
        }
        return failing(() -> {
            Span[] places = ((Shelf) figure(shelf)).places;
            Span span = (Span) figure(figure);
            places[i] = span;
            return 1;
        }, new int[] {NONE});
    }

    int at(int shelf, int i) {
        cause = new int[] {0, NONE, 0};
        if (!has(shelf)) {
            return BAD;
        }
        return failing(() -> {
            Span there = ((Shelf) figure(shelf)).places[i];
            return there == null ? NONE : there.number;
        }, new int[] {NONE});
    }

    int kind(int figure) {
        return has(figure) ? figure(figure).kind() : BAD;
    }

    int parts(int figure) {
        return has(figure) ? figure(figure).parts().size() : BAD;
    }

    long part(int figure, int k) {
        if (!has(figure) || k < 0 || k >= figure(figure).parts().size()) {
            return NO_NUMBER;
        }
        Object part = figure(figure).parts().get(k);
        if (part == null) {
            return NONE;
        }
        return part instanceof Figure ? ((Figure) part).number : bits(part);
    }

    private static long bits(Object number) {
        return number instanceof Double ? Double.doubleToLongBits((Double) number) : ((Number) number).longValue();
    }

    long weight(int figure, boolean heavy) {
        if (!has(figure)) {
            return NO_NUMBER;
        }
        return heavy ? figure(figure).heavy() : figure(figure).weight();
    }

    private static boolean alike(Object a, Object b) {
        if (a == null || b == null) {
            return a == b;
        }
        if (!(a instanceof Figure)) {
            return a.equals(b);
        }
        Figure one = (Figure) a;
        Figure other = (Figure) b;
        if (one.kind() != other.kind() || one.parts().size() != other.parts().size()) {
            return false;
        }
        if (one instanceof Shelf) {
            return one == other;
        }
        for (int i = 0; i < one.parts().size(); i++) {
            if (!alike(one.parts().get(i), other.parts().get(i))) {
                return false;
            }
        }
        return true;
    }

    int equal(int a, int b) {
        if (!has(a) || !has(b)) {
            return BAD;
        }
        return alike(figure(a), figure(b)) ? 1 : 0;
    }

    private static int hashOf(Figure figure) {
        int h = figure.kind();
        if (figure instanceof Shelf) {
            return 31 * h + figure.number;
        }
        for (Object part : figure.parts()) {
            int p = part == null ? 0 : part instanceof Figure ? hashOf((Figure) part) : Long.hashCode(bits(part));
            h = 31 * h + p;
        }
        return h;
    }

    int hash(int figure) {
        return has(figure) ? hashOf(figure(figure)) : 0;
    }

    @SuppressWarnings("unchecked")
    private static int compare(Object a, Object b) {
        if (a == null || b == null) {
            return (a == null ? 0 : 1) - (b == null ? 0 : 1);
        }
        if (!(a instanceof Figure)) {
            return ((Comparable<Object>) a).compareTo(b);
        }
        Figure one = (Figure) a;
        Figure other = (Figure) b;
        if (one.kind() != other.kind()) {
            return Integer.compare(one.kind(), other.kind());
        }
        if (one instanceof Shelf) {
            return Integer.compare(one.number, other.number);
        }
        if (one instanceof Row) {
            return compareRows((Row) one, (Row) other);
        }
        for (int i = 0; i < one.parts().size(); i++) {
            int sign = compare(one.parts().get(i), other.parts().get(i));
            if (sign != 0) {
                return sign;
            }
        }
        return 0;
    }

    private static int compareRows(Row one, Row other) {
        int sign = Arrays.compare(one.items, other.items);
        if (sign != 0) {
            return sign;
        }
        return one.item != other.item ? Integer.compare(one.item, other.item) : Integer.compare(one.k, other.k);
    }

    int order(int a, int b) {
        if (!has(a) || !has(b)) {
            return BAD;
        }
        return Integer.signum(compare(figure(a), figure(b)));
    }

    int ranked(int k) {
        if (k < 0) {
            return BAD;
        }
        List<Figure> sorted = new ArrayList<>(figures);
        sorted.sort(Model::compare);
        return k < sorted.size() ? sorted.get(k).number : NONE;
    }

    int first(int figure) {
        if (!has(figure)) {
            return BAD;
        }
        int i = 0;
        while (!alike(figure(i), figure(figure))) {
            i++;
        }
        return i;
    }

    int family(int a, int b, int c, int d) {
        List<Integer> kinds = new ArrayList<>();
        for (int kind : new int[] {a, b, c, d}) {
            if (kind < NONE || kind > 6 || kinds.contains(kind)) {
                return BAD;
            }
            if (kind != NONE) {
                kinds.add(kind);
            }
        }
        if (families.size() == 6) {
            return FULL;
        }
        families.add(kinds);
        return families.size() - 1;
    }

    int tag(int family, int figure) {
        if (family < 0 || family >= families.size() || !has(figure)) {
            return BAD;
        }
        List<Integer> kinds = families.get(family);
        int own = kinds.indexOf(figure(figure).kind());
        return own < 0 && figure(figure) instanceof Span ? kinds.indexOf(1) : own;
    }

    int tagged(int family, int tag) {
        if (family < 0 || family >= families.size() || tag < NONE || tag > 3) {
            return BAD;
        }
        int found = 0;
        for (Figure each : figures) {
            found += tag(family, each.number) == tag ? 1 : 0;
        }
        return found;
    }

    private static boolean isEnumeration(int enumeration) {
        return enumeration >= 0 && enumeration <= 3;
    }

    private Constant member(int enumeration, int name) {
        for (Constant each : enumerations.get(enumeration)) {
            if (each.name == name) {
                return each;
            }
        }
        return null;
    }

    private boolean isConstant(int constant) {
        return constant >= 0 && constant < constants.size();
    }

    int constant(int enumeration, int name) {
        if (!isEnumeration(enumeration) || name < 0 || name > 9999 || member(enumeration, name) != null) {
            return BAD;
        }
        if (constants.size() == 60) {
            return FULL;
        }
        Constant made = new Constant(constants.size(), enumeration, name);
        constants.add(made);
        enumerations.get(enumeration).add(made);
        return made.number;
    }

    int named(int enumeration, int name) {
        cause = new int[] {0, NONE, 0};
        if (!isEnumeration(enumeration)) {
            return BAD;
        }
        return failing(() -> Objects.requireNonNull(member(enumeration, name)).number, new int[] {NONE});
    }

    int drop(int constant) {
        if (!isConstant(constant)) {
            return BAD;
        }
        List<Constant> home = enumerations.get(constants.get(constant).enumeration);
        return home.remove(constants.get(constant)) ? home.size() : BAD;
    }

    int reorder(int enumeration) {
        if (!isEnumeration(enumeration)) {
            return BAD;
        }
        List<Constant> home = enumerations.get(enumeration);
        for (int i = home.size() - 1; i >= 1; i--) {
            link = link * 48271 % 2147483647;
            java.util.Collections.swap(home, i, (int) (link % (i + 1)));
        }
        return home.size();
    }

    int seed(int seed) {
        if (seed < 1 || seed > 2147483646) {
            return BAD;
        }
        int was = (int) link;
        link = seed;
        return was;
    }

    int told(int constant, int what) {
        if (!isConstant(constant) || what < 0 || what > 2) {
            return BAD;
        }
        Constant known = constants.get(constant);
        int[] told = {known.enumeration, known.name, enumerations.get(known.enumeration).indexOf(known)};
        return told[what];
    }

    int placed(int enumeration, int place) {
        if (!isEnumeration(enumeration) || place < 0) {
            return BAD;
        }
        List<Constant> home = enumerations.get(enumeration);
        return place < home.size() ? home.get(place).number : NONE;
    }

    private List<Integer> key(int constant) {
        return List.of(constants.get(constant).enumeration, constants.get(constant).name);
    }

    int put(int constant, int v) {
        if (!isConstant(constant)) {
            return BAD;
        }
        if (keys.size() == 40 && !keys.containsKey(key(constant))) {
            return FULL;
        }
        return keys.put(key(constant), v) == null ? 0 : 1;
    }

    int get(int constant) {
        return isConstant(constant) ? keys.getOrDefault(key(constant), 0) : 0;
    }

    int count(int what) {
        if (what >= 11 && what <= 17) {
            return ever[what - 10];
        }
        if (what < 0 || what > 4) {
            return BAD;
        }
        int members = 0;
        for (List<Constant> each : enumerations) {
            members += each.size();
        }
        int[] counts = {figures.size(), numbers.size(), families.size(), members, keys.size()};
        return counts[what];
    }
}
