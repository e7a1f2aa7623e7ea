import java.util.ArrayList;
import java.util.List;

/**
 * Promise 1, "Nothing changes then": all that an object tells is the same with and without a refused call, but for
 * cause() and the counts of failures.
 */
public final class RefusedTest {
    private static final int NONE = KindRows.NONE, BAD = KindRows.BAD, FULL = KindRows.FULL, FAILED = KindRows.FAILED;
    private static final int NULL = 1, INDEX = 2, CAST = 3, STORE = 4, SIZE = 5, ZERO = 6, OWN = 7;
    private static final int POINT = 0, SPAN = 1, WIDE = 2, PAIR = 4, ROW = 5, SHELF = 6, ALONE = 7;
    private static final Check check = new Check();

    interface Making {
        KindRows make();
    }

    interface Call {
        int on(KindRows x);
    }

    /** Tells one side of an object; each has a new object, as an object is used for 512 calls at most. */
    interface Telling {
        void tell(KindRows x, List<Long> answers);
    }

    private static final List<Telling> TELLINGS = List.of(RefusedTest::tellFigures, RefusedTest::tellOrder,
        RefusedTest::tellFamilies, RefusedTest::tellConstants, RefusedTest::tellCountsAndLink, RefusedTest::tellNumbers);

    public static void main(String[] args) {
        badFigures();
        badFamiliesAndConstants();
        fullFigures();
        fullOthers();
        failedMaking();
        failedOnShelves();
        failedTwice();
        check.end("RefusedTest");
    }

    /** Something of everything, and OWN 1 in PART 1 as the cause. */
    private static KindRows made() {
        KindRows x = new KindRows();
        x.point(5, -1);
        x.span(1, 5);
        x.wide(0, 6, 2);
        x.share(7, 2);
        x.pair(2, NONE);
        x.lay(9);
        x.lay(-4);
        x.row(3, 1);
        x.shelf(false, 2);
        x.shelf(true, 1);
        x.pair(6, 1);
        x.set(SHELF, 1, WIDE);
        x.set(ALONE, 0, WIDE);
        x.family(SPAN, WIDE, NONE, POINT);
        x.family(NONE, NONE, SHELF, NONE);
        for (int i = 0; i < 6; i++) {
            x.constant(i / 5, i);
        }
        x.put(1, 10);
        x.put(2, -10);
        x.drop(1);
        x.reorder(0);
        x.span(1, 0);
        return x;
    }

    /** As many of everything as there may be, but of figures one less. */
    private static KindRows almostFull() {
        KindRows x = new KindRows();
        for (int i = 0; i < 59; i++) {
            x.span(-i, i % 7);
        }
        for (int i = 0; i < 12; i++) {
            x.lay(i * i);
        }
        for (int i = 0; i < 6; i++) {
            x.family(i, NONE, NONE, NONE);
        }
        for (int i = 0; i < 60; i++) {
            x.constant(i % 4, i);
        }
        for (int i = 0; i < 40; i++) {
            x.put(i, i + 1);
        }
        x.span(1, 0);
        return x;
    }

    private static KindRows full() {
        KindRows x = almostFull();
        x.shelf(true, 3);
        x.named(0, 9999);
        return x;
    }

    private static void tellFigures(KindRows x, List<Long> answers) {
        for (int i = 0; i < Math.min(10, x.count(0)); i++) {
            answers.add((long) x.kind(i));
            answers.add((long) x.parts(i));
            for (int k = 0; k < x.parts(i); k++) {
                answers.add(x.part(i, k));
            }
            answers.add(x.weight(i, false));
            answers.add(x.weight(i, true));
            answers.add((long) x.hash(i));
        }
    }

    private static void tellOrder(KindRows x, List<Long> answers) {
        for (int i = 0; i < 61; i++) {
            answers.add((long) x.ranked(i));
            answers.add((long) x.first(i));
            answers.add((long) x.order(i, 60 - i));
            answers.add((long) x.equal(i, 1));
        }
    }

    private static void tellFamilies(KindRows x, List<Long> answers) {
        for (int family = 0; family < 7; family++) {
            for (int tag = NONE; tag < 4; tag++) {
                answers.add((long) x.tagged(family, tag));
            }
            for (int i = 0; i < 10; i++) {
                answers.add((long) x.tag(family, i));
            }
        }
    }

    private static void tellConstants(KindRows x, List<Long> answers) {
        for (int i = 0; i < 61; i++) {
            answers.add((long) x.told(i, 1) * 4 + x.told(i, 0));
            answers.add((long) x.told(i, 2));
            answers.add((long) x.get(i));
            answers.add((long) x.placed(i % 4, i / 4));
        }
    }

    private static void tellCountsAndLink(KindRows x, List<Long> answers) {
        for (int what = 0; what <= 4; what++) {
            answers.add((long) x.count(what));
        }
        answers.add((long) x.seed(1));
    }

    /** A row that cannot be made for want of room has no parts, with the refused call and without it. */
    private static void tellNumbers(KindRows x, List<Long> answers) {
        int row = x.row(12, 0);
        for (int k = 0; k < 15; k++) {
            answers.add(x.part(row, k));
        }
    }

    private static void nothingChanges(String what, Making making, Call refused) {
        for (Telling telling : TELLINGS) {
            List<Long> want = new ArrayList<>();
            telling.tell(making.make(), want);
            KindRows x = making.make();
            refused.on(x);
            List<Long> got = new ArrayList<>();
            telling.tell(x, got);
            check.due(what + ": answers", got.size(), want.size());
            for (int i = 0; i < Math.min(got.size(), want.size()); i++) {
                check.due(what + ": answer " + i + " of those that tell", got.get(i), want.get(i));
            }
        }
    }

    /** One more of a failure of one kind, or (0) none at all. */
    private static void failuresGrow(String what, Making making, Call refused, int failure) {
        KindRows before = making.make();
        KindRows x = making.make();
        refused.on(x);
        for (int each = NULL; each <= OWN; each++) {
            check.due(what + ": count " + (10 + each), x.count(10 + each), before.count(10 + each) + (each == failure ? 1 : 0));
        }
    }

    /** A call that could be FAILED and answers BAD or FULL: it was not. */
    private static void refused(String what, Making making, int answer, Call call) {
        KindRows x = making.make();
        check.due(what, call.on(x), answer);
        check.cause(what, x, 0, NONE, 0);
        nothingChanges(what, making, call);
        failuresGrow(what, making, call, 0);
    }

    /** A call that could never be FAILED leaves the cause, too. */
    private static void refusedAside(String what, Making making, int answer, Call call) {
        KindRows x = making.make();
        int[] cause = {x.cause(0), x.cause(1), x.cause(2)};
        check.due(what, call.on(x), answer);
        check.cause(what, x, cause[0], cause[1], cause[2]);
        nothingChanges(what, making, call);
        failuresGrow(what, making, call, 0);
    }

    private static void failed(String what, int failure, int part, int own, Call call) {
        KindRows x = made();
        check.failed(what, call.on(x), x, failure, part, own);
        nothingChanges(what, RefusedTest::made, call);
        failuresGrow(what, RefusedTest::made, call, failure);
    }

    private static void badFigures() {
        Making made = RefusedTest::made;
        refused("9: pair, no such left", made, BAD, x -> x.pair(9, 0));
        refused("9: pair, no such right", made, BAD, x -> x.pair(0, 9));
        refused("9: pair, below none", made, BAD, x -> x.pair(0, -2));
        refused("10: row, m is 13", made, BAD, x -> x.row(13, 0));
        refused("11: shelf, n is 13", made, BAD, x -> x.shelf(true, 13));
        refused("12: set, no such shelf", made, BAD, x -> x.set(9, 0, SPAN));
        refused("12: set, no such figure", made, BAD, x -> x.set(SHELF, 0, 9));
        refused("13: at, no such shelf", made, BAD, x -> x.at(9, 0));
        refused("27: named, no such enumeration", made, BAD, x -> x.named(4, 0));
        refusedAside("2: cause, 3", made, BAD, x -> x.cause(3));
        refusedAside("14: kind, no such figure", made, BAD, x -> x.kind(9));
        refusedAside("15: parts, no such figure", made, BAD, x -> x.parts(9));
        refusedAside("18: equal, no such figure", made, BAD, x -> x.equal(0, 9));
        refusedAside("19: hash, no such figure", made, 0, x -> x.hash(9));
        refusedAside("20: order, no such figure", made, BAD, x -> x.order(9, 0));
        refusedAside("21: ranked, -1", made, BAD, x -> x.ranked(-1));
        refusedAside("21: ranked, none", made, NONE, x -> x.ranked(9));
        refusedAside("22: first, no such figure", made, BAD, x -> x.first(9));
        refusedAside("16: part, none", made, 1, x -> x.part(0, 2) == -3000000000000000000L ? 1 : 0);
        refusedAside("17: weight, none", made, 1, x -> x.weight(9, true) == -3000000000000000000L ? 1 : 0);
    }

    private static void badFamiliesAndConstants() {
        Making made = RefusedTest::made;
        refusedAside("23: family, a kind twice", made, BAD, x -> x.family(POINT, SPAN, NONE, POINT));
        refusedAside("23: family, kind 7", made, BAD, x -> x.family(POINT, SPAN, NONE, 7));
        refusedAside("24: tag, no such family", made, BAD, x -> x.tag(2, 0));
        refusedAside("24: tag, no such figure", made, BAD, x -> x.tag(0, 9));
        refusedAside("25: tagged, tag 4", made, BAD, x -> x.tagged(0, 4));
        refusedAside("25: tagged, tag below none", made, BAD, x -> x.tagged(0, -2));
        refusedAside("26: constant, a name that it has", made, BAD, x -> x.constant(0, 4));
        refusedAside("26: constant, name 10000", made, BAD, x -> x.constant(0, 10000));
        refusedAside("26: constant, enumeration 4", made, BAD, x -> x.constant(4, 0));
        refusedAside("28: drop, gone", made, BAD, x -> x.drop(1));
        refusedAside("28: drop, no such constant", made, BAD, x -> x.drop(6));
        refusedAside("29: reorder, enumeration 4", made, BAD, x -> x.reorder(4));
        refusedAside("30: seed, 0", made, BAD, x -> x.seed(0));
        refusedAside("30: seed, 2147483647", made, BAD, x -> x.seed(Integer.MAX_VALUE));
        refusedAside("31: told, what is 3", made, BAD, x -> x.told(0, 3));
        refusedAside("31: told, no such constant", made, BAD, x -> x.told(6, 0));
        refusedAside("32: placed, below 0", made, BAD, x -> x.placed(0, -1));
        refusedAside("32: placed, enumeration 4", made, BAD, x -> x.placed(4, 0));
        refusedAside("33: put, no such constant", made, BAD, x -> x.put(6, 1));
        refusedAside("34: get, no such constant", made, 0, x -> x.get(6));
        refusedAside("35: count, 5", made, BAD, x -> x.count(5));
    }

    private static void fullFigures() {
        Making full = RefusedTest::full;
        refused("5: point, full", full, FULL, x -> x.point(1, 1));
        refused("6: span, full", full, FULL, x -> x.span(1, 2));
        refused("6: span, full and above", full, FULL, x -> x.span(2, 1));
        refused("7: wide, full", full, FULL, x -> x.wide(0, 2, 1));
        refused("7: wide, full and no multiple", full, FULL, x -> x.wide(0, 3, 2));
        refused("8: share, full", full, FULL, x -> x.share(1, 1));
        refused("8: share, full and by 0", full, FULL, x -> x.share(1, 0));
        refused("9: pair, full", full, FULL, x -> x.pair(0, NONE));
        refused("9: pair, full and nothing", full, FULL, x -> x.pair(NONE, NONE));
        refused("9: pair, full and bad", full, BAD, x -> x.pair(60, NONE));
        refused("10: row, full", full, FULL, x -> x.row(12, 11));
        refused("10: row, full and below 0", full, FULL, x -> x.row(-1, 0));
        refused("10: row, full and bad", full, BAD, x -> x.row(13, 0));
        refused("11: shelf, full", full, FULL, x -> x.shelf(false, 12));
        refused("11: shelf, full and below 0", full, FULL, x -> x.shelf(false, -1));
        refused("11: shelf, full and bad", full, BAD, x -> x.shelf(false, 13));
    }

    private static void fullOthers() {
        Making almost = RefusedTest::almostFull;
        refusedAside("3: lay, full", almost, FULL, x -> x.lay(77));
        refusedAside("23: family, full", almost, FULL, x -> x.family(SPAN, NONE, NONE, NONE));
        refusedAside("23: family, full and bad", almost, BAD, x -> x.family(SPAN, SPAN, NONE, NONE));
        refusedAside("26: constant, full", almost, FULL, x -> x.constant(0, 1));
        refusedAside("26: constant, full and bad", almost, BAD, x -> x.constant(0, 0));
        refusedAside("33: put, full", almost, FULL, x -> x.put(40, 1));
        refusedAside("33: put, full and bad", almost, BAD, x -> x.put(60, 1));
    }

    private static void failedMaking() {
        failed("6: span, low above high", OWN, 1, 1, x -> x.span(0, -1));
        failed("7: wide, low above high", OWN, 1, 1, x -> x.wide(0, -1, 1));
        failed("7: wide, step 0", ZERO, 2, 0, x -> x.wide(0, 0, 0));
        failed("7: wide, no multiple", OWN, 2, 2, x -> x.wide(0, 1, 2));
        failed("8: share, by 0", ZERO, 1, 0, x -> x.share(1, 0));
        failed("9: pair, left is nothing", NULL, 0, 0, x -> x.pair(NONE, 0));
        failed("10: row, m below 0", SIZE, 0, 0, x -> x.row(-1, -1));
        failed("10: row, k below 0", INDEX, 1, 0, x -> x.row(1, -1));
        failed("10: row, k as m", INDEX, 1, 0, x -> x.row(12, 12));
        failed("11: shelf, n below 0", SIZE, 0, 0, x -> x.shelf(true, -1));
    }

    private static void failedOnShelves() {
        failed("12: set, no shelf", CAST, NONE, 0, x -> x.set(PAIR, 0, SPAN));
        failed("12: set, no span", CAST, NONE, 0, x -> x.set(SHELF, 0, POINT));
        failed("12: set, place below 0", INDEX, NONE, 0, x -> x.set(SHELF, -1, SPAN));
        failed("12: set, place as n", INDEX, NONE, 0, x -> x.set(SHELF, 2, NONE));
        failed("12: set, a span that is not wide", STORE, NONE, 0, x -> x.set(ALONE, 0, SPAN));
        failed("13: at, no shelf", CAST, NONE, 0, x -> x.at(ROW, 0));
        failed("13: at, place below 0", INDEX, NONE, 0, x -> x.at(SHELF, -1));
        failed("13: at, place as n", INDEX, NONE, 0, x -> x.at(ALONE, 1));
        failed("27: named, gone", NULL, NONE, 0, x -> x.named(0, 1));
        failed("27: named, never", NULL, NONE, 0, x -> x.named(3, 0));
    }

    /** The latest one is told, and each is counted. */
    private static void failedTwice() {
        KindRows x = made();
        check.due("2: the first", x.wide(0, 1, 2), FAILED);
        check.failed("2: the second, another kind", x.row(1, 1), x, INDEX, 1, 0);
        check.failed("2: the third, no part", x.at(SHELF, 2), x, INDEX, NONE, 0);
        check.failed("2: the fourth, own again", x.span(3, 2), x, OWN, 1, 1);
        check.due("35: own failures", x.count(17), 3);
        check.due("35: failures of places", x.count(12), 2);
    }
}
