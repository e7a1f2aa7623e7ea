/** Promises 14 to 22: kinds, parts, weights, likeness, hashes and the order of figures. */
public final class FigureTest {
    private static final int NONE = KindRows.NONE, BAD = KindRows.BAD;
    private static final long NO_NUMBER = -3000000000000000000L;
    private static final int LEAST = Integer.MIN_VALUE, MOST = Integer.MAX_VALUE;
    private static final int[] STRANGE = {LEAST, -2, NONE, 8, 60, MOST};
    private static final Check check = new Check();

    public static void main(String[] args) {
        kindsAndParts();
        strangeNumbers();
        weights();
        weightsOfPairsAndShelves();
        equals();
        hashes();
        orderOfKinds();
        orderOfNumbers();
        orderOfDoubles();
        orderOfPairs();
        orderOfRows();
        oneOrderOfRows();
        orderOfShelves();
        ranks();
        ranksWhilePairsAreCompared();
        deepPairs();
        check.end("FigureTest");
    }

    /** One of each kind, numbered as the kinds are, and a pair without a right one. */
    private static KindRows oneOfEach() {
        KindRows x = new KindRows();
        x.point(0, 0);
        x.span(1, 5);
        x.wide(0, 6, 2);
        x.share(7, 2);
        x.pair(0, 1);
        x.lay(9);
        x.row(2, 0);
        x.shelf(false, 3);
        x.pair(4, NONE);
        return x;
    }

    private static void kindsAndParts() {
        KindRows x = oneOfEach();
        int[] parts = {2, 2, 3, 3, 2, 5, 4, 2};
        for (int i = 0; i < 8; i++) {
            check.due("14: kind " + i, x.kind(i), i == 7 ? 4 : i);
            check.due("15: parts " + i, x.parts(i), parts[i]);
            check.due("16: part -1 of " + i, x.part(i, -1), NO_NUMBER);
            check.due("16: no part of " + i, x.part(i, parts[i]), NO_NUMBER);
            check.due("16: no part of " + i, x.part(i, LEAST), NO_NUMBER);
            check.due("16: no part of " + i, x.part(i, MOST), NO_NUMBER);
            check.holds("16: last part of " + i, x.part(i, parts[i] - 1) != NO_NUMBER);
        }
    }

    private static void strangeNumbers() {
        KindRows x = oneOfEach();
        for (int no : STRANGE) {
            check.due("14: kind " + no, x.kind(no), BAD);
            check.due("15: parts " + no, x.parts(no), BAD);
            check.due("16: part " + no, x.part(no, 0), NO_NUMBER);
            check.due("17: weight " + no, x.weight(no, false), NO_NUMBER);
            check.due("17: heavy " + no, x.weight(no, true), NO_NUMBER);
            check.due("18: equal " + no, x.equal(no, 0), BAD);
            check.due("18: equal " + no, x.equal(0, no), BAD);
            check.due("18: equal " + no, x.equal(no, no), BAD);
            check.due("19: hash " + no, x.hash(no), 0);
            check.due("20: order " + no, x.order(no, 0), BAD);
            check.due("20: order " + no, x.order(0, no), BAD);
            check.due("22: first " + no, x.first(no), BAD);
        }
        check.due("21: ranked", x.ranked(-1), BAD);
        check.due("21: ranked", x.ranked(LEAST), BAD);
        check.due("21: ranked", x.ranked(8), NONE);
        check.due("21: ranked", x.ranked(60), NONE);
        check.due("21: ranked", x.ranked(MOST), NONE);
    }

    private static void weight(String what, KindRows x, int figure, long weight, long heavy) {
        check.due("17: weight of " + what, x.weight(figure, false), weight);
        check.due("17: heavy of " + what, x.weight(figure, true), heavy);
    }

    private static void weights() {
        KindRows x = new KindRows();
        weight("a point", x, x.point(5, 5), 1, 3);
        weight("a span", x, x.span(1, 5), 5, 33);
        weight("the widest span", x, x.span(LEAST, MOST), 4294967296L, 25769803779L);
        weight("a wide", x, x.wide(0, 6, 2), 4, 27);
        weight("a wide, step below 0", x, x.wide(0, 6, -3), 3, 21);
        weight("a wide of one", x, x.wide(3, 3, 7), 1, 9);
        weight("a wide of one, step 1", x, x.wide(3, 3, 1), 2, 15);
        weight("a wide, length as step less 1", x, x.wide(0, 2, 1), 4, 27);
        weight("a wide, the least step", x, x.wide(LEAST, 0, LEAST), 2, 15);
        weight("a wide, 64 bits", x, x.wide(LEAST, MOST, 1), 4294967297L, 25769803785L);
        weight("a share", x, x.share(-7, 2), -3, -5);
        weight("a share that goes round", x, x.share(Long.MIN_VALUE, -1), Long.MIN_VALUE, 1);
        x.lay(4);
        x.lay(-6);
        weight("a row", x, x.row(2, 1), -6, -11);
        weight("a row of what lacks", x, x.row(3, 2), 0, 1);
    }

    private static void weightsOfPairsAndShelves() {
        KindRows x = new KindRows();
        int span = x.span(1, 5);
        int wide = x.wide(0, 6, 2);
        int point = x.point(0, 0);
        int shelf = x.shelf(false, 3);
        weight("an empty shelf", x, shelf, 0, 1);
        int pair = x.pair(span, wide);
        weight("a pair: left is heavy", x, pair, 33 + 4, 33 + 4);
        int half = x.pair(point, NONE);
        weight("a pair of one", x, half, 3, 3);
        int onShelf = x.pair(shelf, shelf);
        int deep = x.pair(onShelf, pair);
        weight("a pair of pairs", x, deep, 1 + 37, 1 + 37);
        x.set(shelf, 0, span);
        x.set(shelf, 2, wide);
        weight("a shelf with two", x, shelf, 2, 5);
        weight("a pair of a shelf with two", x, onShelf, 5 + 2, 5 + 2);
        weight("a pair of pairs later", x, deep, 7 + 37, 7 + 37);
        x.set(shelf, 0, wide);
        weight("a shelf whose place has another one", x, shelf, 2, 5);
        x.set(shelf, 0, NONE);
        x.set(shelf, 0, NONE);
        weight("a shelf with one", x, shelf, 1, 3);
        weight("a pair of pairs later", x, deep, 4 + 37, 4 + 37);
        int great = x.share(Long.MAX_VALUE, 1);
        weight("a pair that goes round", x, x.pair(great, great), -1 + Long.MAX_VALUE, -1 + Long.MAX_VALUE);
    }

    private static void alike(String what, KindRows x, int a, int b, boolean so) {
        check.due("18: " + what, x.equal(a, b), so ? 1 : 0);
        check.due("18: " + what, x.equal(b, a), so ? 1 : 0);
        check.due("20: like, " + what, x.order(a, b) == 0 ? 1 : 0, so ? 1 : 0);
        check.due("22: first, " + what, x.first(Math.max(a, b)), so ? Math.min(a, b) : Math.max(a, b));
        check.due("18: itself", x.equal(a, a), 1);
        if (so) {
            check.due("19: " + what, x.hash(a), x.hash(b));
        }
    }

    private static void equals() {
        KindRows x = new KindRows();
        alike("span and wide", x, x.span(0, 6), x.wide(0, 6, 1), false);
        alike("spans", x, 0, x.span(0, 6), true);
        alike("spans, another high", x, 0, x.span(0, 7), false);
        alike("wides, another step", x, 1, x.wide(0, 6, -1), false);
        alike("shares, one quotient", x, x.share(7, 2), x.share(6, 2), false);
        alike("shares", x, 6, x.share(6, 2), true);
        alike("nothing and something", x, x.pair(0, NONE), x.pair(0, 0), false);
        alike("pairs of nothing", x, 8, x.pair(2, NONE), true);
        alike("pairs, other way", x, x.pair(0, 1), x.pair(1, 0), false);
        alike("pairs of pairs", x, x.pair(8, 11), x.pair(10, 11), true);
        alike("points, -0 and 0", x, x.point(0, 0), x.point(0, Long.MIN_VALUE), false);
        alike("points, not a number", x, x.point(0x7ff0000000000001L, 0), x.point(-1L, 0), true);
        alike("shelves", x, x.shelf(true, 1), x.shelf(true, 1), false);
        int last = x.count(0);
        alike("pairs of shelves", x, x.pair(last - 1, NONE), x.pair(last - 2, NONE), false);
        alike("pairs of one shelf", x, last, x.pair(last - 1, NONE), true);
        x.lay(0);
        alike("rows", x, x.row(2, 0), x.row(2, 0), true);
        alike("rows, another k", x, x.count(0) - 1, x.row(2, 1), false);
        alike("rows, other items", x, x.row(3, 0), x.row(4, 0), false);
        int three = x.span(0, 6);
        check.due("22: of several", x.first(three), 0);
        check.due("22: later ones count for nothing", x.first(0), 0);
        int shelf = x.shelf(false, 1);
        int with = x.pair(shelf, NONE);
        int hash = x.hash(with);
        x.set(shelf, 0, 0);
        alike("a pair of a shelf before and after", x, with, x.pair(shelf, NONE), true);
        check.due("19: what stands in a shelf is not hashed", x.hash(with), hash);
    }

    private static void hashes() {
        KindRows x = new KindRows();
        check.due("19: point", x.hash(x.point(1L << 32 | 2, 5)), (0 * 31 + 3) * 31 + 5);
        check.due("19: point, not a number", x.hash(x.point(-1, 0)), 2131230720);
        check.due("19: span", x.hash(x.span(4, 7)), (31 + 4) * 31 + 7);
        check.due("19: below 0 the higher bits are all 1", x.hash(x.span(-4, -1)), (31 + 3) * 31 + 0);
        check.due("19: wide", x.hash(x.wide(4, 7, 3)), ((2 * 31 + 4) * 31 + 7) * 31 + 3);
        check.due("19: share", x.hash(x.share(7, 2)), ((3 * 31 + 7) * 31 + 2) * 31 + 3);
        int span = (31 + 4) * 31 + 7;
        check.due("19: pair", x.hash(x.pair(2, 2)), (4 * 31 + span) * 31 + span);
        check.due("19: pair of nothing", x.hash(x.pair(2, NONE)), (4 * 31 + span) * 31);
        x.lay(8);
        check.due("19: row", x.hash(x.row(2, 1)), ((((5 * 31 + 2) * 31 + 1) * 31 + 0) * 31 + 8) * 31 + 0);
        check.due("19: shelf", x.hash(x.shelf(false, 3)), 6 * 31 + 9);
        check.due("19: another shelf", x.hash(x.shelf(true, 3)), 6 * 31 + 10);
        check.due("19: pair of a shelf", x.hash(x.pair(9, NONE)), (4 * 31 + 6 * 31 + 9) * 31);
        check.due("19: higher bits", x.hash(x.share(1L << 40, 1)), ((3 * 31 + 256) * 31 + 1) * 31 + 256);
    }

    private static void before(String what, KindRows x, int a, int b) {
        check.due("20: " + what, x.order(a, b), -1);
        check.due("20: other way, " + what, x.order(b, a), 1);
        check.due("18: " + what, x.equal(a, b), 0);
    }

    private static void orderOfKinds() {
        KindRows x = oneOfEach();
        for (int a = 0; a < 7; a++) {
            check.due("20: itself", x.order(a, a), 0);
            for (int b = a + 1; b < 7; b++) {
                before("kind " + a + " and " + b, x, a, b);
            }
        }
    }

    private static void orderOfNumbers() {
        KindRows x = new KindRows();
        before("span, low", x, x.span(-5, 9), x.span(3, 4));
        before("span, high", x, x.span(3, 3), 1);
        before("span, far apart", x, x.span(LEAST, MOST), x.span(MOST, MOST));
        before("wide, step", x, x.wide(0, 6, -2), x.wide(0, 6, 2));
        before("wide, high before step", x, x.wide(0, 6, 3), x.wide(0, 8, -1));
        before("share, n", x, x.share(-7, -2), x.share(3, 1));
        before("share, d", x, x.share(6, -2), x.share(6, 2));
        before("share, d and not the quotient", x, x.share(6, 2), x.share(6, 3));
        before("share, longs", x, x.share(Long.MIN_VALUE, 1), x.share(Long.MAX_VALUE, 1));
    }

    private static void orderOfDoubles() {
        double[] rising = {Double.NEGATIVE_INFINITY, -2, -1.5, -Double.MIN_VALUE, -0.0, 0.0, Double.MIN_VALUE, 1, 1e300,
            Double.POSITIVE_INFINITY, Double.NaN};
        KindRows x = new KindRows();
        for (int i = 0; i < rising.length; i++) {
            x.point(Double.doubleToLongBits(rising[i]), -i);
        }
        for (int i = 0; i < rising.length; i++) {
            x.point(0, Double.doubleToLongBits(rising[i]));
        }
        for (int i = 1; i < rising.length; i++) {
            before("x " + rising[i], x, i - 1, i);
            before("y " + rising[i], x, rising.length + i - 1, rising.length + i);
        }
        int strange = x.point(0xfff0000000000001L, 0);
        before("what is not a number, sign below 0", x, 9, strange);
    }

    private static void orderOfPairs() {
        KindRows x = new KindRows();
        int high = x.span(5, 5);
        int low = x.span(1, 1);
        int point = x.point(0, 0);
        before("left", x, x.pair(low, high), x.pair(high, low));
        before("right", x, x.pair(low, low), x.pair(low, high));
        before("nothing first", x, x.pair(low, NONE), x.pair(low, point));
        before("left before right", x, x.pair(low, high), x.pair(high, NONE));
        before("kinds of the parts", x, x.pair(point, NONE), x.pair(low, NONE));
        int mid = x.count(0);
        before("pairs in pairs", x, x.pair(mid - 2, high), x.pair(mid - 1, low));
        int again = x.span(1, 1);
        check.due("20: parts that are alike", x.order(x.pair(again, high), x.pair(low, high)), 0);
        before("parts that are alike, then right", x, x.pair(again, low), x.pair(low, high));
    }

    private static int row(KindRows x, int k, int... items) {
        x.wipe();
        for (int item : items) {
            x.lay(item);
        }
        return x.row(items.length, k);
    }

    /** The parts of a row in the order: all items, a beginning being less, the item at k, k. */
    private static void orderOfRows() {
        KindRows x = new KindRows();
        before("a beginning", x, row(x, 0, 4), row(x, 0, 4, LEAST));
        before("a longer beginning", x, row(x, 1, 4, 5), row(x, 1, 4, 5, -9));
        before("a beginning, k higher", x, row(x, 1, 4, 4), row(x, 0, 4, 4, 0));
        before("a beginning, the item at k higher", x, row(x, 0, 1), row(x, 1, 1, 0, 0, 0, 0, 0, 0, 0));
        before("a beginning, the item at k far higher", x, row(x, 1, LEAST, MOST), row(x, 0, LEAST, MOST, LEAST));
        before("a beginning of all but one", x, row(x, 10, 0, 0, 0, 0, 0, 0, 0, 0, 0, 0, 7),
            row(x, 11, 0, 0, 0, 0, 0, 0, 0, 0, 0, 0, 7, -7));
        before("items before how many", x, row(x, 0, 4, 5, 6), row(x, 0, 4, 6));
        before("k behind all items", x, row(x, 1, 4, 4, 3), row(x, 0, 4, 4, 5));
        before("the item at k behind all items", x, row(x, 1, 1, 3), row(x, 1, 9, 2));
        before("the item at k, then k, when all items are alike", x, row(x, 1, 5, 3), row(x, 0, 5, 3));
        before("k when all items are alike, and the item at k", x, row(x, 0, 4, 4), row(x, 1, 4, 4));
        before("the first item", x, row(x, 0, 3, 3), row(x, 0, 4, 0));
        before("ints by size", x, row(x, 0, LEAST), row(x, 0, MOST));
    }

    /** Of rows there is one order, in whichever order they are made; pairs of them follow it. */
    private static void oneOrderOfRows() {
        int[][] rising = {{1}, {1, 0}, {1, 9}, {2, 0}, {5, 0}};
        int[] k = {0, 1, 1, 1, 1};
        for (int first = 0; first < 5; first++) {
            for (int step = 1; step < 5; step++) {
                KindRows x = new KindRows();
                int[] number = new int[5];
                for (int i = 0; i < 5; i++) {
                    int at = (first + i * step) % 5;
                    number[at] = row(x, k[at], rising[at]);
                }
                for (int a = 0; a < 5; a++) {
                    check.due("21: rows from " + first + " by " + step, x.ranked(a), number[a]);
                    for (int b = a + 1; b < 5; b++) {
                        before("rows from " + first + " by " + step, x, number[a], number[b]);
                    }
                }
                before("pairs of rows", x, x.pair(number[0], number[4]), x.pair(number[1], number[0]));
            }
        }
    }

    private static void orderOfShelves() {
        KindRows x = new KindRows();
        int wide = x.wide(0, 0, 1);
        before("shelves by number", x, x.shelf(true, 12), x.shelf(false, 0));
        x.set(1, 0, wide);
        before("shelves by number, whatever stands there", x, 1, 2);
        before("pairs of shelves", x, x.pair(1, 2), x.pair(2, 1));
    }

    private static void ranks() {
        KindRows x = new KindRows();
        x.span(3, 3);
        x.span(1, 1);
        x.span(3, 3);
        x.point(0, 0);
        x.shelf(true, 0);
        x.span(1, 1);
        x.span(2, 2);
        int[] want = {3, 1, 5, 6, 0, 2, 4, NONE};
        for (int k = 0; k < want.length; k++) {
            check.due("21: ranked " + k, x.ranked(k), want[k]);
        }
        check.due("20: still before", x.order(1, 6), -1);
        check.due("20: still like", x.order(0, 2), 0);
        check.due("22: first", x.first(5), 1);
    }

    /** Like shelves and rows stand behind pairs: they must stay alike while pairs of them are ranked. */
    private static void ranksWhilePairsAreCompared() {
        KindRows x = new KindRows();
        x.row(1, 0);
        x.row(1, 0);
        x.row(2, 0);
        x.pair(2, NONE);
        x.pair(0, NONE);
        x.pair(1, NONE);
        x.pair(0, NONE);
        alike("pairs of like rows", x, 4, 5, true);
        check.due("22: pairs of like rows", x.first(6), 4);
        before("pairs of unlike rows", x, 6, 3);
        int[] want = {4, 5, 6, 3, 0, 1, 2};
        for (int k = 0; k < want.length; k++) {
            check.due("21: ranked " + k, x.ranked(k), want[k]);
        }
    }

    /** Each pair has the one before it twice: a walk that went down both ways each time would not end. */
    private static void deepPairs() {
        KindRows x = new KindRows();
        x.point(0, 0);
        x.point(0, 0);
        for (int i = 2; i < 60; i++) {
            check.due("9: deep pair", x.pair(i - 2, i - 2), i);
        }
        long weight = 3 + 1;
        int hash = 0;
        for (int i = 2; i < 60; i += 2) {
            check.due("17: deep pair " + i, x.weight(i + 1, false), weight);
            weight *= 2;
            hash = (4 * 31 + hash) * 31 + hash;
            check.due("19: deep pair " + i, x.hash(i + 1), hash);
            check.due("18: deep pair " + i, x.equal(i, i + 1), 1);
            check.due("20: deep pair " + i, x.order(i, i + 1), 0);
            check.due("22: deep pair " + i, x.first(i + 1), i);
            check.due("20: deeper pair " + i, x.order(i - 2, i), -1);
        }
        KindRows chain = new KindRows();
        chain.span(0, 0);
        for (int i = 1; i < 60; i++) {
            chain.pair(i - 1, i - 1);
        }
        long want = 9 + 1;
        for (int i = 1; i < 60; i++) {
            check.due("17: chain " + i, chain.weight(i, true), want);
            want *= 2;
        }
    }
}
