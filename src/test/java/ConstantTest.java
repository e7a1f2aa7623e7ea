/** Promises 26 to 35: constants, their order, their keys, and counts. */
public final class ConstantTest {
    private static final int NONE = KindRows.NONE, BAD = KindRows.BAD, FULL = KindRows.FULL;
    private static final int NULL = 1;
    private static final int LEAST = Integer.MIN_VALUE, MOST = Integer.MAX_VALUE;
    private static final int[] STRANGE = {LEAST, -1, 4, MOST};
    private static final Check check = new Check();

    public static void main(String[] args) {
        making();
        allNumbers();
        naming();
        dropping();
        reordering();
        oneEnumerationAlone();
        seeding();
        greatLinks();
        telling();
        placing();
        keys();
        allKeys();
        keysOfGoneOnesWhenFull();
        counts();
        failureCounts();
        check.end("ConstantTest");
    }

    private static void making() {
        KindRows x = new KindRows();
        check.due("26: number", x.constant(0, 0), 0);
        check.due("26: number", x.constant(3, 9999), 1);
        check.due("26: a name that another has", x.constant(3, 0), 2);
        check.due("26: a name that it has", x.constant(3, 0), BAD);
        check.due("26: name below 0", x.constant(0, -1), BAD);
        check.due("26: name above 9999", x.constant(0, 10000), BAD);
        check.due("26: name above 9999", x.constant(0, MOST), BAD);
        for (int no : STRANGE) {
            check.due("26: no enumeration " + no, x.constant(no, 5), BAD);
        }
        check.due("26: nothing else was made", x.count(3), 3);
        check.due("26: behind the others", x.told(2, 2), 1);
        check.due("26: behind the others", x.placed(3, 0), 1);
    }

    private static void allNumbers() {
        KindRows x = new KindRows();
        for (int i = 0; i < 60; i++) {
            check.due("26: number", x.constant(i / 59, i), i);
        }
        check.due("26: full", x.constant(2, 0), FULL);
        check.due("26: bad before full", x.constant(0, 0), BAD);
        check.due("26: bad before full", x.constant(4, 0), BAD);
        check.due("28: drop", x.drop(0), 58);
        check.due("26: full, one is gone", x.constant(0, 0), FULL);
        check.due("28: drop the last one", x.drop(58), 57);
        check.due("32: the last one now", x.placed(0, 56), 57);
        check.due("32: none behind", x.placed(0, 57), NONE);
        check.due("31: the last one is gone", x.told(58, 2), NONE);
        check.due("28: the last one is gone", x.drop(58), BAD);
        check.due("31: the last number", x.told(59, 1), 59);
        check.due("31: no such constant when all are given", x.told(60, 1), BAD);
        KindRows y = new KindRows();
        for (int i = 0; i < 60; i++) {
            y.constant(3, i);
        }
        check.due("29: all in one enumeration", y.reorder(3), 60);
        check.due("28: all in one enumeration", y.drop(y.placed(3, 0)), 59);
    }

    private static void naming() {
        KindRows x = new KindRows();
        x.constant(1, 7);
        x.constant(2, 7);
        x.constant(1, 8);
        check.due("27: named", x.named(1, 7), 0);
        check.due("27: named", x.named(2, 7), 1);
        check.due("27: named", x.named(1, 8), 2);
        check.failed("27: no such name", x.named(2, 8), x, NULL, NONE, 0);
        check.failed("27: any name", x.named(0, -1), x, NULL, NONE, 0);
        check.failed("27: any name", x.named(0, LEAST), x, NULL, NONE, 0);
        check.failed("27: any name", x.named(0, 10000), x, NULL, NONE, 0);
        for (int no : STRANGE) {
            check.due("27: no enumeration " + no, x.named(no, 7), BAD);
            check.cause("27: bad", x, 0, NONE, 0);
        }
    }

    private static void dropping() {
        KindRows x = new KindRows();
        for (int name = 10; name < 14; name++) {
            x.constant(0, name);
        }
        check.due("28: drop", x.drop(1), 3);
        check.due("28: gone", x.drop(1), BAD);
        check.due("28: no such constant", x.drop(4), BAD);
        check.due("28: no such constant", x.drop(-1), BAD);
        check.due("28: no such constant", x.drop(LEAST), BAD);
        check.due("28: the ones behind move", x.told(2, 2), 1);
        check.due("28: the ones before stay", x.told(0, 2), 0);
        check.failed("28: its name is gone", x.named(0, 11), x, NULL, NONE, 0);
        check.due("28: made anew", x.constant(0, 11), 4);
        check.due("28: made anew it stands behind", x.told(4, 2), 3);
        check.due("28: the old one stays gone", x.drop(1), BAD);
        check.due("27: the new one", x.named(0, 11), 4);
        check.due("28: drop", x.drop(0), 3);
        check.due("28: drop", x.drop(2), 2);
        check.due("28: drop", x.drop(3), 1);
        check.due("28: drop", x.drop(4), 0);
        check.due("29: none are left", x.reorder(0), 0);
        check.due("30: no draw", x.seed(1), 1);
    }

    private static void reordering() {
        KindRows x = new KindRows();
        for (int i = 0; i < 7; i++) {
            x.constant(2, 100 + i);
        }
        x.constant(3, 5);
        int[] order = {0, 1, 2, 3, 4, 5, 6};
        long link = 1;
        for (int round = 0; round < 5; round++) {
            check.due("29: how many", x.reorder(2), 7);
            for (int i = 6; i >= 1; i--) {
                link = link * 48271 % 2147483647;
                int j = (int) (link % (i + 1));
                int kept = order[i];
                order[i] = order[j];
                order[j] = kept;
            }
            for (int i = 0; i < 7; i++) {
                check.due("29: place " + i, x.placed(2, i), order[i]);
                check.due("31: place " + i, x.told(order[i], 2), i);
            }
        }
        check.due("29: one alone", x.reorder(3), 1);
        check.due("29: none", x.reorder(0), 0);
        check.due("29: one alone and none draw nothing", x.seed(9), link);
        for (int no : STRANGE) {
            check.due("29: no enumeration " + no, x.reorder(no), BAD);
        }
        check.due("29: bad draws nothing", x.seed(1), 9);
        check.due("26: behind the others in another order", x.told(x.constant(2, 200), 2), 7);
    }

    /** What is done to one enumeration leaves the others; the link is drawn from for all of them. */
    private static void oneEnumerationAlone() {
        KindRows x = new KindRows();
        for (int i = 0; i < 12; i++) {
            x.constant(i % 4, i / 4);
        }
        x.seed(48271);
        check.due("29: the second", x.reorder(1), 3);
        check.due("28: of the third", x.drop(6), 2);
        for (int place = 0; place < 3; place++) {
            check.due("29: the first stays, place " + place, x.placed(0, place), 4 * place);
            check.due("29: the fourth stays, place " + place, x.placed(3, place), 4 * place + 3);
        }
        check.due("27: the same name in another one", x.named(1, 1), 5);
        check.due("28: the third's last moves", x.placed(2, 1), 10);
        check.due("28: none behind it", x.placed(2, 2), NONE);
        long link = 48271L * 48271 % 2147483647 * 48271 % 2147483647;
        check.due("29: the fourth", x.reorder(3), 3);
        for (int draws = 0; draws < 2; draws++) {
            link = link * 48271 % 2147483647;
        }
        check.due("30: one link for all", x.seed(1), link);
    }

    private static void seeding() {
        KindRows x = new KindRows();
        check.due("30: what it was", x.seed(2147483646), 1);
        check.due("30: seed 0", x.seed(0), BAD);
        check.due("30: seed below 0", x.seed(-1), BAD);
        check.due("30: the least seed", x.seed(LEAST), BAD);
        check.due("30: the greatest int", x.seed(MOST), BAD);
        check.due("30: nothing changed", x.seed(1), 2147483646);
        check.due("30: what it was", x.seed(7), 1);
        x.constant(0, 0);
        x.constant(0, 1);
        x.reorder(0);
        check.due("30: the link of 7", x.seed(7), 7 * 48271);
        check.due("32: 7 * 48271 is odd", x.placed(0, 0), 0);
        x.seed(2);
        x.reorder(0);
        check.due("32: 2 * 48271 is even", x.placed(0, 0), 1);
    }

    /** LINK times 48271 has more than 32 bits: at its greatest it becomes 2147483647 less 48271. */
    private static void greatLinks() {
        KindRows x = new KindRows();
        x.constant(0, 0);
        x.constant(0, 1);
        x.seed(2147483646);
        check.due("29: a draw", x.reorder(0), 2);
        check.due("29: an even link changes their places", x.placed(0, 0), 1);
        check.due("30: the greatest link, drawn once", x.seed(2147483645), 2147435376);
        check.due("29: a draw", x.reorder(0), 2);
        check.due("30: the next lower link, drawn once", x.seed(1), 2147387105);
        check.due("29: an odd link does not", x.placed(0, 0), 1);
    }

    private static void telling() {
        KindRows x = new KindRows();
        x.constant(3, 77);
        x.constant(3, 78);
        check.due("31: enumeration", x.told(1, 0), 3);
        check.due("31: name", x.told(1, 1), 78);
        check.due("31: place", x.told(1, 2), 1);
        check.due("31: what", x.told(1, -1), BAD);
        check.due("31: what", x.told(1, 3), BAD);
        check.due("31: what", x.told(1, LEAST), BAD);
        check.due("31: no such constant", x.told(2, 0), BAD);
        check.due("31: no such constant", x.told(-1, 2), BAD);
        check.due("31: no such constant", x.told(MOST, 1), BAD);
        x.drop(0);
        check.due("31: enumeration, gone", x.told(0, 0), 3);
        check.due("31: name, gone", x.told(0, 1), 77);
        check.due("31: place, gone", x.told(0, 2), NONE);
        check.due("31: what, gone", x.told(0, 3), BAD);
    }

    private static void placing() {
        KindRows x = new KindRows();
        x.constant(1, 1);
        check.due("32: place", x.placed(1, 0), 0);
        check.due("32: none", x.placed(1, 1), NONE);
        check.due("32: none", x.placed(1, 60), NONE);
        check.due("32: none", x.placed(1, MOST), NONE);
        check.due("32: none", x.placed(0, 0), NONE);
        check.due("32: below 0", x.placed(1, -1), BAD);
        check.due("32: below 0", x.placed(1, LEAST), BAD);
        for (int no : STRANGE) {
            check.due("32: no enumeration " + no, x.placed(no, 0), BAD);
        }
    }

    private static void keys() {
        KindRows x = new KindRows();
        x.constant(0, 5);
        x.constant(1, 5);
        x.constant(0, 6);
        check.due("33: first", x.put(0, -8), 0);
        check.due("33: again", x.put(0, LEAST), 1);
        check.due("33: 0 is a value", x.put(1, 0), 0);
        check.due("33: 0 was a value", x.put(1, 0), 1);
        check.due("34: value", x.get(0), LEAST);
        check.due("34: another enumeration", x.get(1), 0);
        check.due("34: no value", x.get(2), 0);
        for (int no : new int[] {LEAST, -1, 3, 60, MOST}) {
            check.due("33: no such constant " + no, x.put(no, 1), BAD);
            check.due("34: no such constant " + no, x.get(no), 0);
        }
        x.drop(0);
        check.due("34: gone", x.get(0), LEAST);
        check.due("33: gone", x.put(0, 12), 1);
        int anew = x.constant(0, 5);
        check.due("34: made anew", x.get(anew), 12);
        check.due("33: made anew", x.put(anew, 13), 1);
        check.due("34: the old one's key is the same", x.get(0), 13);
        check.due("35: keys", x.count(4), 2);
        x.drop(2);
        check.due("33: gone, none before", x.put(2, 1), 0);
        check.due("35: keys", x.count(4), 3);
        int last = x.constant(0, 9999);
        int next = x.constant(1, 0);
        x.put(last, 21);
        check.due("34: the next enumeration's first name", x.get(next), 0);
    }

    private static void allKeys() {
        KindRows x = new KindRows();
        for (int i = 0; i < 42; i++) {
            x.constant(i % 4, i);
        }
        for (int i = 0; i < 40; i++) {
            check.due("33: put", x.put(i, i + 1), 0);
        }
        for (int i = 0; i < 40; i++) {
            check.due("34: value", x.get(i), i + 1);
        }
        check.due("33: full", x.put(40, 1), FULL);
        check.due("34: full", x.get(40), 0);
        check.due("33: one that has a value", x.put(39, 77), 1);
        check.due("33: one that has a value", x.put(0, 78), 1);
        check.due("34: value", x.get(39), 77);
        check.due("34: value", x.get(0), 78);
        check.due("33: bad before full", x.put(42, 1), BAD);
        check.due("35: keys", x.count(4), 40);
    }

    private static void keysOfGoneOnesWhenFull() {
        KindRows x = new KindRows();
        for (int i = 0; i < 42; i++) {
            x.constant(0, i);
        }
        for (int i = 0; i < 39; i++) {
            x.put(i, i + 1);
        }
        x.drop(5);
        x.drop(40);
        x.drop(41);
        check.due("33: the 40th key, of one that is gone", x.put(40, 9), 0);
        check.due("33: full, one that is gone", x.put(41, 9), FULL);
        check.due("34: full, one that is gone", x.get(41), 0);
        check.due("33: full, made anew", x.put(x.constant(0, 41), 9), FULL);
        int anew = x.constant(0, 5);
        check.due("34: made anew", x.get(anew), 6);
        check.due("33: made anew, its key has a value", x.put(anew, LEAST), 1);
        check.due("33: gone, its key has a value", x.put(40, MOST), 1);
        check.due("34: the key of the gone one", x.get(5), LEAST);
        check.due("34: any number", x.get(40), MOST);
        check.due("35: keys", x.count(4), 40);
        check.due("35: constants that are not gone", x.count(3), 41);
    }

    private static void counts() {
        KindRows x = new KindRows();
        x.span(0, 0);
        x.span(1, 0);
        x.lay(1);
        x.lay(1);
        for (int i = 0; i < 3; i++) {
            x.family(i, NONE, NONE, NONE);
        }
        for (int i = 0; i < 5; i++) {
            x.constant(i % 4, i);
        }
        x.drop(0);
        x.put(0, 0);
        x.put(1, 0);
        x.put(2, 0);
        x.put(3, 0);
        x.put(4, 0);
        int[] want = {1, 2, 3, 4, 5, BAD, BAD, BAD, BAD, BAD, BAD};
        for (int what = 0; what < want.length; what++) {
            check.due("35: count " + what, x.count(what), want[what]);
        }
        x.wipe();
        check.due("35: numbers", x.count(1), 0);
        for (int what : new int[] {-1, LEAST, LEAST + 17, 18, MOST}) {
            check.due("35: count " + what, x.count(what), BAD);
        }
    }

    private static void failureCounts() {
        KindRows x = new KindRows();
        x.point(0, 0);
        x.span(0, 0);
        x.shelf(true, 1);
        for (int i = 0; i < 2; i++) {
            x.pair(NONE, 0);
        }
        for (int i = 0; i < 3; i++) {
            x.row(0, 0);
        }
        for (int i = 0; i < 4; i++) {
            x.at(0, 0);
        }
        for (int i = 0; i < 5; i++) {
            x.set(2, 0, 1);
        }
        for (int i = 0; i < 6; i++) {
            x.shelf(true, -1);
        }
        for (int i = 0; i < 7; i++) {
            x.share(1, 0);
        }
        for (int i = 0; i < 8; i++) {
            x.wide(i % 2, 1 - i % 2 * 2, 2);
        }
        x.span(5, 5);
        for (int failure = 1; failure <= 7; failure++) {
            check.due("35: failures " + failure, x.count(10 + failure), failure + 1);
        }
    }
}
