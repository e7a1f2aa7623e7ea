import java.util.List;
import java.util.function.ToIntFunction;

/** Promises 1 to 11: a new object, causes, numbers, and the making of figures. */
public final class MakingTest {
    private static final int NONE = KindRows.NONE, BAD = KindRows.BAD, FULL = KindRows.FULL;
    private static final int NULL = 1, INDEX = 2, SIZE = 5, ZERO = 6, OWN = 7;
    private static final int LEAST = Integer.MIN_VALUE, MOST = Integer.MAX_VALUE;
    private static final Check check = new Check();

    public static void main(String[] args) {
        newObject();
        causes();
        numbers();
        points();
        spans();
        wides();
        shares();
        pairs();
        rows();
        shelves();
        sixtieth();
        whenFull();
        check.end("MakingTest");
    }

    private static void newObject() {
        KindRows x = new KindRows();
        for (int what = 0; what <= 4; what++) {
            check.due("1: count of a new object", x.count(what), 0);
        }
        for (int what = 11; what <= 17; what++) {
            check.due("1: failures of a new object", x.count(what), 0);
        }
        check.cause("1: nothing", x, 0, NONE, 0);
        check.due("1: kind", x.kind(0), BAD);
        check.due("1: ranked", x.ranked(0), NONE);
        check.due("1: placed", x.placed(0, 0), NONE);
        check.due("1: wipe", x.wipe(), 0);
        check.due("1: link", x.seed(5), 1);
        KindRows other = new KindRows();
        x.span(1, 2);
        x.lay(1);
        x.constant(0, 0);
        check.due("1: objects have nothing in common", other.count(0) + other.count(1) + other.count(3), 0);
    }

    private static void causes() {
        KindRows x = new KindRows();
        check.due("2: what", x.cause(-1), BAD);
        check.due("2: what", x.cause(3), BAD);
        check.due("2: what", x.cause(LEAST), BAD);
        x.point(0, 0);
        x.span(0, 9);
        int shelf = x.shelf(false, 1);
        x.constant(0, 3);
        Runnable[] allRight = {
            () -> x.point(1, 1), () -> x.span(0, 0), () -> x.wide(0, 2, 2), () -> x.share(1, 1), () -> x.pair(0, 0),
            () -> x.row(1, 0), () -> x.shelf(true, 0), () -> x.set(shelf, 0, 1), () -> x.at(shelf, 0),
            () -> x.named(0, 3), () -> x.pair(0, 99), () -> x.row(13, 0), () -> x.shelf(true, 13),
            () -> x.set(99, 0, 0), () -> x.at(99, 0), () -> x.named(4, 0),
        };
        for (int i = 0; i < allRight.length; i++) {
            check.failed("2: span", x.span(1, 0), x, OWN, 1, 1);
            allRight[i].run();
            check.cause("2: a call that did not fail, " + i, x, 0, NONE, 0);
        }
        check.failed("2: span", x.span(1, 0), x, OWN, 1, 1);
        Runnable[] others = {
            () -> x.lay(1), () -> x.wipe(), () -> x.kind(99), () -> x.parts(0), () -> x.part(0, 99), () -> x.weight(0, true),
            () -> x.equal(0, 99), () -> x.hash(0), () -> x.order(0, 0), () -> x.ranked(-1), () -> x.first(0),
            () -> x.family(9, 9, 9, 9), () -> x.tag(0, 0), () -> x.tagged(0, 0), () -> x.constant(9, 9), () -> x.drop(9),
            () -> x.reorder(9), () -> x.seed(0), () -> x.told(0, 0), () -> x.placed(0, 0), () -> x.put(0, 0),
            () -> x.get(0), () -> x.count(0), () -> x.cause(7),
        };
        for (int i = 0; i < others.length; i++) {
            others[i].run();
            check.cause("2: a call that never fails, " + i, x, OWN, 1, 1);
        }
        check.failed("2: a failure of another kind has no own number", x.share(1, 0), x, ZERO, 1, 0);
    }

    private static void numbers() {
        KindRows x = new KindRows();
        check.due("4: none", x.wipe(), 0);
        for (int i = 1; i <= 12; i++) {
            check.due("3: lay", x.lay(-i), i);
        }
        check.due("3: full", x.lay(99), FULL);
        check.due("3: nothing changed", x.count(1), 12);
        int row = x.row(12, 11);
        check.due("3: the last one", x.part(row, 2), -12);
        check.due("3: the first one", x.part(row, 3), -1);
        check.due("4: wipe", x.wipe(), 12);
        check.due("4: none are left", x.wipe(), 0);
        int zeros = x.row(2, 1);
        check.due("4: what was wiped is no number", x.part(zeros, 2), 0);
        check.due("4: what was wiped is no number", x.part(zeros, 3), 0);
        check.due("4: a row keeps its items", x.part(row, 2), -12);
        check.due("3: after wipe", x.lay(LEAST), 1);
        check.due("3: any number", x.part(x.row(1, 0), 2), LEAST);
    }

    private static void points() {
        KindRows x = new KindRows();
        check.due("5: number", x.point(Double.doubleToLongBits(1.5), Double.doubleToLongBits(-2.5)), 0);
        check.due("5: number", x.point(0x7ff0000000000001L, 0xffffffffffffffffL), 1);
        check.due("5: number", x.point(0x7ff0000000000000L, 0xfff0000000000000L), 2);
        check.due("5: number", x.point(Long.MIN_VALUE, Long.MAX_VALUE), 3);
        check.due("5: x", x.part(0, 0), Double.doubleToLongBits(1.5));
        check.due("5: y", x.part(0, 1), Double.doubleToLongBits(-2.5));
        long nan = Double.doubleToLongBits(Double.NaN);
        check.due("5: not a number", x.part(1, 0), nan);
        check.due("5: not a number below 0", x.part(1, 1), nan);
        check.due("5: without end", x.part(2, 0), 0x7ff0000000000000L);
        check.due("5: without end below 0", x.part(2, 1), 0xfff0000000000000L);
        check.due("5: -0", x.part(3, 0), Long.MIN_VALUE);
        check.due("5: not a number", x.part(3, 1), nan);
    }

    private static void spans() {
        KindRows x = new KindRows();
        check.due("6: number", x.span(LEAST, MOST), 0);
        check.due("6: just one", x.span(4, 4), 1);
        check.failed("6: low above high", x.span(5, 4), x, OWN, 1, 1);
        check.failed("6: low above high", x.span(MOST, LEAST), x, OWN, 1, 1);
        check.due("6: nothing was made", x.count(0), 2);
        check.due("6: the next number", x.span(-3, -2), 2);
        check.due("6: low", x.part(2, 0), -3);
        check.due("6: high", x.part(2, 1), -2);
    }

    private static void wides() {
        KindRows x = new KindRows();
        check.due("7: number", x.wide(-3, 6, 3), 0);
        check.due("7: step below 0", x.wide(0, 6, -2), 1);
        check.due("7: step above the length", x.wide(5, 5, 100), 2);
        check.failed("7: low above high first", x.wide(1, 0, 0), x, OWN, 1, 1);
        check.failed("7: step 0", x.wide(0, 0, 0), x, ZERO, 2, 0);
        check.failed("7: no multiple", x.wide(0, 7, 2), x, OWN, 2, 2);
        check.failed("7: no multiple", x.wide(0, 7, -2), x, OWN, 2, 2);
        check.failed("7: no multiple", x.wide(0, 1, LEAST), x, OWN, 2, 2);
        check.failed("7: going round, -1 is no multiple of 5", x.wide(LEAST, MOST, 5), x, OWN, 2, 2);
        check.due("7: going round, -2147483648 is a multiple of -1", x.wide(LEAST, 0, -1), 3);
        check.due("7: going round, -2147483648 is a multiple of itself", x.wide(LEAST, 0, LEAST), 4);
        check.due("7: going round, -2147483647 is a multiple of 2147483647", x.wide(LEAST, 1, MOST), 5);
        check.due("7: nothing else was made", x.count(0), 6);
        check.due("7: low", x.part(0, 0), -3);
        check.due("7: high", x.part(0, 1), 6);
        check.due("7: step", x.part(1, 2), -2);
    }

    private static void shares() {
        KindRows x = new KindRows();
        check.due("8: number", x.share(-7, 2), 0);
        check.due("8: the least by -1", x.share(Long.MIN_VALUE, -1), 1);
        check.failed("8: by 0", x.share(0, 0), x, ZERO, 1, 0);
        check.failed("8: by 0", x.share(Long.MAX_VALUE, 0), x, ZERO, 1, 0);
        check.due("8: n", x.part(0, 0), -7);
        check.due("8: d", x.part(0, 1), 2);
        check.due("8: towards 0", x.part(0, 2), -3);
        check.due("8: going round", x.part(1, 2), Long.MIN_VALUE);
        check.due("8: number", x.share(1L << 40, 1L << 39), 2);
        check.due("8: longs", x.part(2, 2), 2);
        long[][] towards0 = {{7, -2, -3}, {-7, -2, 3}, {1, 2, 0}, {-1, 2, 0}, {0, -1, 0}, {Long.MAX_VALUE, -1, -Long.MAX_VALUE},
            {Long.MIN_VALUE, 1, Long.MIN_VALUE}, {Long.MIN_VALUE, Long.MIN_VALUE, 1}, {Long.MAX_VALUE, Long.MIN_VALUE, 0}};
        for (long[] each : towards0) {
            check.due("8: " + each[0] + " by " + each[1], x.part(x.share(each[0], each[1]), 2), each[2]);
        }
    }

    private static void pairs() {
        KindRows x = new KindRows();
        check.failed("9: left is nothing", x.pair(NONE, NONE), x, NULL, 0, 0);
        check.due("9: no such left", x.pair(0, NONE), BAD);
        x.span(0, 0);
        check.due("9: number", x.pair(0, NONE), 1);
        check.due("9: number", x.pair(1, 0), 2);
        check.due("9: itself", x.pair(3, 0), BAD);
        check.due("9: no such right", x.pair(0, 3), BAD);
        check.due("9: no such right", x.pair(0, -2), BAD);
        check.due("9: no such left", x.pair(-2, 0), BAD);
        check.due("9: no such left", x.pair(LEAST, 0), BAD);
        check.due("9: bad before failed", x.pair(NONE, 3), BAD);
        check.cause("9: bad", x, 0, NONE, 0);
        check.failed("9: left is nothing", x.pair(NONE, 0), x, NULL, 0, 0);
        check.due("9: nothing was made", x.count(0), 3);
        check.due("9: left", x.part(2, 0), 1);
        check.due("9: right", x.part(2, 1), 0);
        check.due("9: right is nothing", x.part(1, 1), NONE);
    }

    private static void rows() {
        KindRows x = new KindRows();
        x.lay(5);
        x.lay(7);
        check.due("10: number", x.row(1, 0), 0);
        check.due("10: numbers that lack", x.row(12, 11), 1);
        check.due("10: too many", x.row(13, 0), BAD);
        check.due("10: too many", x.row(MOST, -1), BAD);
        check.failed("10: below 0", x.row(-1, 0), x, SIZE, 0, 0);
        check.failed("10: below 0 first", x.row(LEAST, -1), x, SIZE, 0, 0);
        check.failed("10: no items", x.row(0, 0), x, INDEX, 1, 0);
        check.failed("10: k below 0", x.row(2, -1), x, INDEX, 1, 0);
        check.failed("10: k as m", x.row(2, 2), x, INDEX, 1, 0);
        check.failed("10: k far above m", x.row(2, MOST), x, INDEX, 1, 0);
        check.due("10: number", x.row(3, 1), 2);
        check.due("10: parts", x.parts(2), 6);
        long[] want = {3, 1, 7, 5, 7, 0};
        for (int k = 0; k < want.length; k++) {
            check.due("10: part " + k, x.part(2, k), want[k]);
        }
        x.wipe();
        x.lay(9);
        check.due("10: a row keeps its items", x.part(2, 3), 5);
    }

    private static void shelves() {
        KindRows x = new KindRows();
        check.due("11: no places", x.shelf(false, 0), 0);
        check.due("11: most places", x.shelf(true, 12), 1);
        check.due("11: too many", x.shelf(true, 13), BAD);
        check.due("11: too many", x.shelf(false, MOST), BAD);
        check.failed("11: below 0", x.shelf(false, -1), x, SIZE, 0, 0);
        check.failed("11: below 0", x.shelf(true, LEAST), x, SIZE, 0, 0);
        check.due("11: nothing else was made", x.count(0), 2);
        check.due("11: parts", x.parts(0), 1);
        check.due("11: parts", x.parts(1), 13);
        check.due("11: n", x.part(1, 0), 12);
        for (int i = 0; i < 12; i++) {
            check.due("11: nothing stands there", x.part(1, 1 + i), NONE);
        }
    }

    /** An object that has 59 figures, and 7 as all its numbers. */
    private static KindRows oneLeft() {
        KindRows x = new KindRows();
        for (int i = 0; i < 59; i++) {
            x.span(i, i);
        }
        for (int i = 0; i < 12; i++) {
            x.lay(7);
        }
        return x;
    }

    /** Each kind as the last figure that there may be: it is a figure as all others, and there is no 61st. */
    private static void sixtieth() {
        List<ToIntFunction<KindRows>> makings = List.of(x -> x.point(0, 0), x -> x.span(59, 59), x -> x.wide(0, 2, 1),
            x -> x.share(6, 3), x -> x.pair(58, 58), x -> x.row(12, 11), x -> x.shelf(false, 12));
        long[] weights = {1, 1, 4, 2, 10, 7, 0};
        for (int kind = 0; kind < makings.size(); kind++) {
            KindRows x = oneLeft();
            String what = "1: kind " + kind + " as the 60th";
            check.due(what, makings.get(kind).applyAsInt(x), 59);
            check.due(what + ", kind", x.kind(59), kind);
            check.due(what + ", weight", x.weight(59, false), weights[kind]);
            check.due(what + ", ranked", x.ranked(kind == 0 ? 0 : 59), 59);
            check.due(what + ", first", x.first(59), 59);
            check.due(what + ", tag", x.tag(x.family(kind, NONE, NONE, NONE), 59), 0);
            check.due(what + ", tagged", x.tagged(0, 0), kind == 1 ? 60 : 1);
            check.due(what + ", count", x.count(0), 60);
            for (ToIntFunction<KindRows> making : makings) {
                check.due(what + ", no 61st", making.applyAsInt(x), FULL);
            }
            check.due(what + ", no 61st", x.kind(60), BAD);
            check.due(what + ", ranked", x.ranked(60), NONE);
        }
        KindRows x = oneLeft();
        check.failed("1: a failed one as the 60th", x.span(1, 0), x, OWN, 1, 1);
        check.due("1: the 60th after it", x.shelf(true, 12), 59);
        check.due("12: the 60th is a shelf, and stays one when there are all", x.set(59, 11, NONE), 1);
        check.due("13: the 60th", x.at(59, 11), NONE);
    }

    private static void whenFull() {
        KindRows x = new KindRows();
        for (int i = 0; i < 60; i++) {
            check.due("5 to 11: number", x.span(i, i), i);
        }
        int failures = 0;
        check.failed("named", x.named(0, 0), x, NULL, NONE, 0);
        failures++;
        check.due("5: full", x.point(0, 0), FULL);
        check.cause("5: full", x, 0, NONE, 0);
        check.due("6: full", x.span(0, 0), FULL);
        check.due("6: full before failed", x.span(1, 0), FULL);
        check.due("7: full", x.wide(0, 0, 1), FULL);
        check.due("7: full before failed", x.wide(0, 0, 0), FULL);
        check.due("8: full", x.share(1, 1), FULL);
        check.due("8: full before failed", x.share(1, 0), FULL);
        check.due("9: full", x.pair(0, 0), FULL);
        check.due("9: full before failed", x.pair(NONE, 0), FULL);
        check.due("9: bad before full", x.pair(60, 0), BAD);
        check.due("10: full", x.row(1, 0), FULL);
        check.due("10: full before failed", x.row(-1, 0), FULL);
        check.due("10: bad before full", x.row(13, 0), BAD);
        check.due("11: full", x.shelf(false, 0), FULL);
        check.due("11: full before failed", x.shelf(false, -1), FULL);
        check.due("11: bad before full", x.shelf(false, 13), BAD);
        check.cause("11: bad", x, 0, NONE, 0);
        check.due("count(0)", x.count(0), 60);
        int ever = 0;
        for (int what = 11; what <= 17; what++) {
            ever += x.count(what);
        }
        check.due("full is no failure", ever, failures);
    }
}
