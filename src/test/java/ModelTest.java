import java.util.Random;

/** Promises 1 to 35: long runs of calls, the same ones each time, answered as the model answers them. */
public final class ModelTest {
    private static final int RUNS = 600, CALLS = 512;
    private static final int NONE = KindRows.NONE;
    private static final int[] STRANGE = {Integer.MIN_VALUE, Integer.MIN_VALUE + 1, -13, -3, -2, 13, 60, 61, Integer.MAX_VALUE};
    private static final long[] LONGS = {0, 0, 1, 2, 3, 7, -1, -2, -7, Long.MIN_VALUE, Long.MAX_VALUE, 1L << 40, -(1L << 40)};
    private static final long[] DOUBLES = {0, 1, Long.MIN_VALUE, -1, Long.MAX_VALUE, 0x7ff0000000000000L, 0xfff0000000000000L,
        0x7ff0000000000001L, 0x7ff8000000000000L, 0x3ff0000000000000L, 0xbff0000000000000L, 0xc000000000000000L};
    private static final Check check = new Check();

    private final Random random;
    /** Which part of the face this run calls most. */
    private final int bias;
    private final KindRows x = new KindRows();
    private final Model y = new Model();

    private ModelTest(int run) {
        random = new Random(run);
        bias = run % 4;
    }

    public static void main(String[] args) {
        for (int run = 0; run < RUNS; run++) {
            ModelTest test = new ModelTest(run);
            for (int call = 0; call < CALLS; call++) {
                test.step("run " + run + ", call " + call + ": ");
            }
            test.compareAll("run " + run + ", at its end: ");
        }
        check.end("ModelTest");
    }

    private int oneOf(int... some) {
        return some[random.nextInt(some.length)];
    }

    private long oneOf(long[] some) {
        return some[random.nextInt(some.length)];
    }

    /** Mostly -1 to below n, at times far off. */
    private int near(int n) {
        return random.nextInt(20) == 0 ? oneOf(STRANGE) : random.nextInt(n + 2) - 1;
    }

    private int figure() {
        return near(Math.max(1, y.count(0)));
    }

    private int constant() {
        int last = 0;
        while (last < 60 && y.told(last, 0) != Model.BAD) {
            last++;
        }
        return near(Math.max(1, last));
    }

    /** A pair of late figures would make the model's walk down both ways too long. */
    private int early() {
        return random.nextInt(20) == 0 ? oneOf(STRANGE) : random.nextInt(Math.max(1, Math.min(30, y.count(0))) + 1) - 1;
    }

    private void step(String at) {
        int[] groups = {0, 1, 2, 3, bias, bias};
        switch (oneOf(groups)) {
            case 0: making(at); break;
            case 1: shelvesAndNumbers(at); break;
            case 2: asking(at); break;
            default: constants(at); break;
        }
        for (int what = 0; what <= 2; what++) {
            check.due(at + "cause(" + what + ")", x.cause(what), y.cause(what));
        }
    }

    private void making(String at) {
        int low = random.nextInt(5) == 0 ? oneOf(STRANGE) : random.nextInt(7) - 3;
        int high = random.nextInt(5) == 0 ? oneOf(STRANGE) : random.nextInt(9) - 3;
        int step = random.nextInt(9) == 0 ? oneOf(STRANGE) : random.nextInt(7) - 3;
        long n = oneOf(LONGS);
        long d = oneOf(LONGS);
        int left = early();
        int right = early();
        long px = oneOf(DOUBLES);
        long py = oneOf(DOUBLES);
        switch (random.nextInt(5)) {
            case 0: check.due(at + "point", x.point(px, py), y.point(px, py)); break;
            case 1: check.due(at + "span", x.span(low, high), y.span(low, high)); break;
            case 2: check.due(at + "wide", x.wide(low, high, step), y.wide(low, high, step)); break;
            case 3: check.due(at + "share", x.share(n, d), y.share(n, d)); break;
            default: check.due(at + "pair", x.pair(left, right), y.pair(left, right)); break;
        }
    }

    private void shelvesAndNumbers(String at) {
        int v = random.nextInt(9) == 0 ? oneOf(STRANGE) : random.nextInt(4) - 1;
        int m = near(random.nextInt(4) == 0 ? 13 : 3);
        int k = near(random.nextInt(4) == 0 ? 13 : 3);
        boolean wide = random.nextBoolean();
        int shelf = figure();
        for (int tries = 0; tries < 6 && y.kind(shelf) != 6; tries++) {
            shelf = figure();
        }
        int held = figure();
        switch (random.nextInt(9)) {
            case 0: case 1: check.due(at + "lay", x.lay(v), y.lay(v)); break;
            case 2: check.due(at + "wipe", x.wipe(), y.wipe()); break;
            case 3: case 4: check.due(at + "row", x.row(m, k), y.row(m, k)); break;
            case 5: check.due(at + "shelf", x.shelf(wide, m), y.shelf(wide, m)); break;
            case 6: check.due(at + "at", x.at(shelf, k), y.at(shelf, k)); break;
            default: check.due(at + "set", x.set(shelf, k, held), y.set(shelf, k, held)); break;
        }
    }

    private void asking(String at) {
        int a = figure();
        int b = figure();
        int k = near(15);
        int family = near(6);
        switch (random.nextInt(13)) {
            case 0: check.due(at + "kind", x.kind(a), y.kind(a)); break;
            case 1: check.due(at + "parts", x.parts(a), y.parts(a)); break;
            case 2: check.due(at + "part", x.part(a, k), y.part(a, k)); break;
            case 3: check.due(at + "weight", x.weight(a, false), y.weight(a, false)); break;
            case 4: check.due(at + "heavy", x.weight(a, true), y.weight(a, true)); break;
            case 5: check.due(at + "equal", x.equal(a, b), y.equal(a, b)); break;
            case 6: check.due(at + "hash", x.hash(a), y.hash(a)); break;
            case 7: check.due(at + "order", x.order(a, b), y.order(a, b)); break;
            case 8: check.due(at + "ranked", x.ranked(a), y.ranked(a)); break;
            case 9: check.due(at + "first", x.first(a), y.first(a)); break;
            case 10: {
                int[] told = new int[4];
                for (int i = 0; i < 4; i++) {
                    told[i] = random.nextInt(3) == 0 ? NONE : near(7);
                }
                check.due(at + "family", x.family(told[0], told[1], told[2], told[3]),
                    y.family(told[0], told[1], told[2], told[3]));
                break;
            }
            case 11: check.due(at + "tag", x.tag(family, a), y.tag(family, a)); break;
            default: {
                int tag = near(5);
                check.due(at + "tagged", x.tagged(family, tag), y.tagged(family, tag));
            }
        }
    }

    private void constants(String at) {
        int enumeration = near(4);
        int name = random.nextInt(9) == 0 ? oneOf(-1, 9999, 10000, Integer.MAX_VALUE, Integer.MIN_VALUE) : random.nextInt(20);
        int constant = constant();
        int v = random.nextInt(100) - 50;
        switch (random.nextInt(13)) {
            case 0: case 1: case 2: check.due(at + "constant", x.constant(enumeration, name), y.constant(enumeration, name)); break;
            case 3: check.due(at + "named", x.named(enumeration, name), y.named(enumeration, name)); break;
            case 4: check.due(at + "drop", x.drop(constant), y.drop(constant)); break;
            case 5: check.due(at + "reorder", x.reorder(enumeration), y.reorder(enumeration)); break;
            case 6: {
                int seed = oneOf(0, -1, 1, 2147483646, Integer.MAX_VALUE, 1 + random.nextInt(1000000));
                check.due(at + "seed", x.seed(seed), y.seed(seed));
                break;
            }
            case 7: check.due(at + "told", x.told(constant, v % 4), y.told(constant, v % 4)); break;
            case 8: check.due(at + "placed", x.placed(enumeration, v), y.placed(enumeration, v)); break;
            case 9: case 10: check.due(at + "put", x.put(constant, v), y.put(constant, v)); break;
            case 11: check.due(at + "get", x.get(constant), y.get(constant)); break;
            default: check.due(at + "count", x.count(v), y.count(v)); break;
        }
    }

    private void compareAll(String at) {
        for (int what = -1; what <= 18; what++) {
            check.due(at + "count(" + what + ")", x.count(what), y.count(what));
        }
        int figures = y.count(0);
        for (int a = 0; a < figures; a++) {
            for (int k = 0; k < y.parts(a); k++) {
                check.due(at + "part(" + a + ", " + k + ")", x.part(a, k), y.part(a, k));
            }
            check.due(at + "weight(" + a + ")", x.weight(a, false), y.weight(a, false));
            check.due(at + "heavy(" + a + ")", x.weight(a, true), y.weight(a, true));
            check.due(at + "hash(" + a + ")", x.hash(a), y.hash(a));
            check.due(at + "ranked(" + a + ")", x.ranked(a), y.ranked(a));
            check.due(at + "first(" + a + ")", x.first(a), y.first(a));
            for (int b = 0; b < figures; b++) {
                check.due(at + "equal(" + a + ", " + b + ")", x.equal(a, b), y.equal(a, b));
                check.due(at + "order(" + a + ", " + b + ")", x.order(a, b), y.order(a, b));
            }
        }
        for (int c = 0; c < 60; c++) {
            check.due(at + "told(" + c + ")", x.told(c, 2), y.told(c, 2));
            check.due(at + "get(" + c + ")", x.get(c), y.get(c));
            check.due(at + "placed(" + c + ")", x.placed(c % 4, c / 4), y.placed(c % 4, c / 4));
        }
    }
}
