/** Promises 23 to 25: families and their tags. */
public final class FamilyTest {
    private static final int NONE = KindRows.NONE, BAD = KindRows.BAD, FULL = KindRows.FULL;
    private static final int POINT = 0, SPAN = 1, WIDE = 2, SHARE = 3, PAIR = 4, ROW = 5, SHELF = 6;
    private static final Check check = new Check();

    public static void main(String[] args) {
        making();
        tags();
        eachKind();
        howMany();
        check.end("FamilyTest");
    }

    private static void making() {
        KindRows x = new KindRows();
        int[][] bad = {{7, NONE, NONE, NONE}, {NONE, -2, NONE, NONE}, {NONE, NONE, 7, NONE}, {NONE, NONE, NONE, 32},
            {SPAN, SPAN, NONE, NONE}, {POINT, NONE, NONE, POINT}, {ROW, SHELF, NONE, SHELF}, {NONE, 3, 3, NONE},
            {Integer.MIN_VALUE, 0, 1, 2}, {0, 1, 2, Integer.MAX_VALUE}};
        for (int[] k : bad) {
            check.due("23: bad", x.family(k[0], k[1], k[2], k[3]), BAD);
        }
        check.due("23: nothing was made", x.count(2), 0);
        check.due("23: none of all", x.family(NONE, NONE, NONE, NONE), 0);
        check.due("23: four", x.family(SHELF, ROW, PAIR, SHARE), 1);
        check.due("23: span and wide are two", x.family(SPAN, WIDE, NONE, NONE), 2);
        for (int i = 3; i < 6; i++) {
            check.due("23: the same again", x.family(NONE, NONE, NONE, POINT), i);
        }
        check.due("23: full", x.family(POINT, NONE, NONE, NONE), FULL);
        check.due("23: bad before full", x.family(POINT, POINT, NONE, NONE), BAD);
        check.due("23: nothing changed", x.count(2), 6);
        x.point(0, 0);
        check.due("24: the last family", x.tag(5, 0), 0);
        check.due("24: no such family when there are all", x.tag(6, 0), BAD);
        check.due("25: no such family when there are all", x.tagged(6, 0), BAD);
    }

    private static void tags() {
        KindRows x = new KindRows();
        int span = x.span(0, 1);
        int wide = x.wide(0, 1, 1);
        int point = x.point(0, 0);
        int both = x.family(SPAN, WIDE, NONE, NONE);
        int other = x.family(WIDE, SPAN, NONE, NONE);
        int spans = x.family(NONE, POINT, NONE, SPAN);
        int wides = x.family(NONE, NONE, NONE, WIDE);
        int empty = x.family(NONE, NONE, NONE, NONE);
        check.due("24: the special one behind", x.tag(both, wide), 1);
        check.due("24: the general one", x.tag(both, span), 0);
        check.due("24: the special one first", x.tag(other, wide), 0);
        check.due("24: the general one behind", x.tag(other, span), 1);
        check.due("24: none counts for nothing", x.tag(spans, point), 0);
        check.due("24: a wide is of span", x.tag(spans, wide), 1);
        check.due("24: a span is not of wide", x.tag(wides, span), NONE);
        check.due("24: wide", x.tag(wides, wide), 0);
        check.due("24: a stranger", x.tag(both, point), NONE);
        check.due("24: all are strangers", x.tag(empty, wide), NONE);
        for (int no : new int[] {-2, NONE, 5, 6, Integer.MAX_VALUE}) {
            check.due("24: no such family " + no, x.tag(no, span), BAD);
            check.due("25: no such family " + no, x.tagged(no, 0), BAD);
        }
        for (int no : new int[] {-2, NONE, 3, 60}) {
            check.due("24: no such figure " + no, x.tag(both, no), BAD);
        }
    }

    private static void eachKind() {
        KindRows x = new KindRows();
        x.point(0, 0);
        x.span(0, 0);
        x.wide(0, 0, 1);
        x.share(0, 1);
        x.pair(0, 0);
        x.row(1, 0);
        x.shelf(false, 0);
        int low = x.family(SHARE, WIDE, SPAN, POINT);
        int high = x.family(NONE, SHELF, ROW, PAIR);
        int[] inLow = {3, 2, 1, 0, NONE, NONE, NONE};
        int[] inHigh = {NONE, NONE, NONE, NONE, 2, 1, 0};
        for (int kind = POINT; kind <= SHELF; kind++) {
            check.due("24: kind " + kind, x.tag(low, kind), inLow[kind]);
            check.due("24: kind " + kind, x.tag(high, kind), inHigh[kind]);
        }
    }

    private static void howMany() {
        KindRows x = new KindRows();
        int spans = x.family(SPAN, NONE, NONE, NONE);
        int both = x.family(POINT, SPAN, WIDE, ROW);
        check.due("25: no figures", x.tagged(spans, NONE), 0);
        x.span(0, 0);
        x.wide(0, 0, 1);
        x.wide(0, 0, 1);
        x.shelf(true, 1);
        x.point(0, 0);
        x.point(0, 0);
        check.due("25: strangers", x.tagged(spans, NONE), 3);
        check.due("25: wides are of span", x.tagged(spans, 0), 3);
        check.due("25: no such place", x.tagged(spans, 1), 0);
        check.due("25: no such place", x.tagged(spans, 3), 0);
        check.due("25: strangers", x.tagged(both, NONE), 1);
        check.due("25: points", x.tagged(both, 0), 2);
        check.due("25: spans alone", x.tagged(both, 1), 1);
        check.due("25: wides", x.tagged(both, 2), 2);
        check.due("25: rows", x.tagged(both, 3), 0);
        check.due("25: tag below none", x.tagged(both, -2), BAD);
        check.due("25: tag above 3", x.tagged(both, 4), BAD);
        check.due("25: tag above 3", x.tagged(both, Integer.MAX_VALUE), BAD);
    }
}
