/** Promises 12 and 13: what shelves take, and what stands there. */
public final class ShelfTest {
    private static final int NONE = KindRows.NONE, BAD = KindRows.BAD;
    private static final int INDEX = 2, CAST = 3, STORE = 4;
    private static final int SPAN = 0, WIDE = 1, POINT = 2, ANY = 3, ALONE = 4, EMPTY = 5;
    private static final Check check = new Check();

    public static void main(String[] args) {
        whatIsTaken();
        whatIsRefused();
        firstFailure();
        reading();
        check.end("ShelfTest");
    }

    private static KindRows made() {
        KindRows x = new KindRows();
        x.span(1, 5);
        x.wide(0, 6, 2);
        x.point(0, 0);
        x.shelf(false, 2);
        x.shelf(true, 12);
        x.shelf(true, 0);
        return x;
    }

    private static void whatIsTaken() {
        KindRows x = made();
        check.due("12: a span", x.set(ANY, 0, SPAN), 1);
        check.due("12: a wide", x.set(ANY, 1, WIDE), 1);
        check.due("12: a wide", x.set(ALONE, 11, WIDE), 1);
        check.due("12: nothing", x.set(ALONE, 0, NONE), 1);
        check.due("12: nothing", x.set(ANY, 0, NONE), 1);
        check.due("13: nothing", x.at(ANY, 0), NONE);
        check.due("13: wide", x.at(ANY, 1), WIDE);
        check.due("12: another one", x.set(ANY, 1, SPAN), 1);
        check.due("13: span", x.at(ANY, 1), SPAN);
        check.due("13: wide", x.at(ALONE, 11), WIDE);
        check.due("16: n", x.part(ANY, 0), 2);
        check.due("16: place 0", x.part(ANY, 1), NONE);
        check.due("16: place 1", x.part(ANY, 2), SPAN);
        check.due("13: the places of another shelf", x.at(ALONE, 1), NONE);
    }

    private static void whatIsRefused() {
        KindRows x = made();
        x.set(ANY, 0, SPAN);
        check.due("12: no such figure", x.set(ANY, 0, 6), BAD);
        check.due("12: no such figure", x.set(ANY, 0, -2), BAD);
        check.due("12: no such shelf", x.set(6, 0, SPAN), BAD);
        check.due("12: nothing is no shelf", x.set(NONE, 0, SPAN), BAD);
        check.due("12: bad before failed", x.set(POINT, 0, 6), BAD);
        check.cause("12: bad", x, 0, NONE, 0);
        check.failed("12: no shelf", x.set(POINT, 0, SPAN), x, CAST, NONE, 0);
        check.failed("12: no shelf, nothing", x.set(SPAN, 0, NONE), x, CAST, NONE, 0);
        check.failed("12: no span", x.set(ANY, 0, POINT), x, CAST, NONE, 0);
        check.failed("12: a shelf is no span", x.set(ANY, 0, ANY), x, CAST, NONE, 0);
        check.failed("12: no span", x.set(ALONE, 0, POINT), x, CAST, NONE, 0);
        check.failed("12: place below 0", x.set(ANY, -1, SPAN), x, INDEX, NONE, 0);
        check.failed("12: place as n", x.set(ANY, 2, SPAN), x, INDEX, NONE, 0);
        check.failed("12: the greatest place", x.set(ANY, Integer.MAX_VALUE, NONE), x, INDEX, NONE, 0);
        check.failed("12: no places", x.set(EMPTY, 0, WIDE), x, INDEX, NONE, 0);
        check.failed("12: a span that is not wide", x.set(ALONE, 0, SPAN), x, STORE, NONE, 0);
        check.due("13: nothing changed", x.at(ANY, 0), SPAN);
        check.due("13: nothing changed", x.at(ALONE, 0), NONE);
        check.due("17: nothing changed", x.weight(ANY, false), 1);
    }

    private static void firstFailure() {
        KindRows x = made();
        check.failed("12: cast before index", x.set(ANY, 9, POINT), x, CAST, NONE, 0);
        check.failed("12: cast before index", x.set(POINT, 9, SPAN), x, CAST, NONE, 0);
        check.failed("12: index before store", x.set(ALONE, 12, SPAN), x, INDEX, NONE, 0);
        check.failed("12: index before store", x.set(EMPTY, 0, SPAN), x, INDEX, NONE, 0);
    }

    private static void reading() {
        KindRows x = made();
        check.due("13: no such figure", x.at(6, 0), BAD);
        check.due("13: no such figure", x.at(NONE, 0), BAD);
        check.cause("13: bad", x, 0, NONE, 0);
        check.failed("13: no shelf", x.at(SPAN, 0), x, CAST, NONE, 0);
        check.failed("13: cast before index", x.at(WIDE, -1), x, CAST, NONE, 0);
        check.failed("13: place below 0", x.at(ANY, -1), x, INDEX, NONE, 0);
        check.failed("13: place as n", x.at(ANY, 2), x, INDEX, NONE, 0);
        check.failed("13: the least place", x.at(ANY, Integer.MIN_VALUE), x, INDEX, NONE, 0);
        check.failed("13: no places", x.at(EMPTY, 0), x, INDEX, NONE, 0);
        check.due("13: the last place", x.at(ALONE, 11), NONE);
        check.cause("13: no failure", x, 0, NONE, 0);
    }
}
