/** Parts III and IV of the terms and promises 22 to 30: each sentence that names a boundary case, with its test. */
public final class ShelfSentencesTest {
    public static void main(String[] args) {
        fortyWords();
        trust();
        xAndYAreOne();
        eightThings();
        allThingsOnTheShelf();
        leftOf();
        beside();
        ends();
        firstByThings();
        quarrelOfTheRest();
        places();
        mostTrust();
        toldAgain();
        kindsAtFirst();
        clashesInTwos();
        twoOfItsParts();
        fewestThenLeastBits();
        noneAndAll();
        counts();
        Sentence.end();
    }

    private static void fortyWords() {
        Sentence.ofTerms("VISITORS' WORDS have numbers from 0 on (40 at most)");
        Run run = Books.empty();
        for (int n = 0; n < 40; n++) {
            run.due("count(6)", n).due("visitor(" + n % 4 + ", 0, 1, 1)", n);
        }
        Sentence.ofPromise("visitor", "-6 (40, too)");
        for (int sort = 0; sort < 4; sort++) {
            run.refused("visitor(" + sort + ", 0, 1, 1)", -6);
        }
        run.due("visitor(0, 1, 0, 9)", -6).due("count(6)", 40).due("shelf(3)", 30).due("quarrel(3)", 10);
    }

    private static void trust() {
        Sentence.ofTerms("each with a TRUST (1 .. 9)");
        for (int sort = 0; sort < 4; sort++) {
            String head = "visitor(" + sort + ", 0, 1, ";
            Books.empty().due(head + "1)", 0).due("shelf(3)", 1);
            Books.empty().due(head + "9)", 0).due("shelf(3)", 9);
            Books.empty().refused(head + "0)", -4).refused(head + "10)", -6).due("shelf(3)", 0);
        }
    }

    private static void xAndYAreOne() {
        Sentence.ofPromise("visitor", "(x and y are one, too, of SORTS 0, 1)");
        Run run = Books.empty().refused("visitor(0, 4, 4, 1)", -1).refused("visitor(1, 4, 4, 1)", -1);
        run.due("visitor(2, 4, 4, 1)", 0).due("visitor(3, 4, 4, 1)", 1).due("visitor(0, 4, 5, 1)", 2);
        run.due("visitor(1, 5, 4, 1)", 3).due("count(11)", 0);
    }

    private static void eightThings() {
        Sentence.ofTerms("A SHELF has THINGS (a set, 8 at most) in a row");
        Run run = Books.empty().due("shelf(1)", 0).due("shelf(2048)", 0).due("shelf(255)", 0).due("shelf(4080)", 0);
        run.refused("shelf(511)", -6).refused("shelf(4088)", -6).refused("shelf(4095)", -6);
        run.refused("shelf(0)", -1).refused("shelf(4096)", -1);
        Sentence.ofPromise("shelf", "-1 none, or others; -6 more than 8.");
        // Eight of them, one of which is none, are refused for that one.
        run.refused("shelf(4223)", -1).refused("shelf(8191)", -1).refused("shelf(-2147483648)", -1);
        for (int thing = 0; thing < 12; thing++) {
            run.due("row(" + (1 << thing) + ", 0)", thing);
        }
    }

    private static void allThingsOnTheShelf() {
        Sentence.ofTerms("Of those of which all THINGS are on the SHELF");
        for (int sort = 0; sort < 2; sort++) {
            Run run = Books.empty().tell("visitor(" + sort + ", 3, 7, 5)");
            run.due("shelf(8)", 0).due("quarrel(8)", 0).due("shelf(128)", 0).due("quarrel(128)", 0);
            run.due("shelf(136)", 5).due("quarrel(136)", 0).due("shelf(1)", 0).due("quarrel(1)", 0);
        }
        for (int sort = 2; sort < 4; sort++) {
            Run run = Books.empty().tell("visitor(" + sort + ", 3, 7, 5)");
            run.due("shelf(8)", 5).due("shelf(128)", 0).due("quarrel(128)", 0).due("shelf(136)", 5).due("shelf(9)", 5);
        }
    }

    private static void leftOf() {
        Sentence.ofTerms("THING x stands left of THING y (SORT 0)");
        Run run = Books.empty().tell("visitor(0, 11, 0, 1)").due("row(2049, 0)", 11).due("row(2049, 1)", 0);
        Run three = Books.empty().tell("visitor(0, 0, 2, 5)", "visitor(0, 2, 1, 3)").due("shelf(7)", 8);
        three.due("row(7, 0)", 0).due("row(7, 1)", 2).due("row(7, 2)", 1);
        Run down = Books.empty();
        for (int thing = 11; thing > 4; thing--) {
            down.tell("visitor(0, " + thing + ", " + (thing - 1) + ", 1)");
        }
        for (int k = 0; k < 8; k++) {
            down.due("row(4080, " + k + ")", 11 - k);
        }
        // Left of it, not just beside it.
        run.tell("visitor(2, 11, 0, 9)", "visitor(3, 0, 0, 9)").due("shelf(2303)", -6).due("shelf(2175)", 19);
        run.due("row(2175, 0)", 11).due("row(2175, 7)", 0).due("quarrel(2175)", 0);
    }

    private static void beside() {
        Sentence.ofTerms("beside it (1: nothing of the SHELF between)");
        Run run = Books.empty().tell("visitor(1, 0, 2, 5)");
        run.due("shelf(5)", 5).due("row(5, 0)", 0).due("row(5, 1)", 2);
        // What is not of the shelf is not between; what is of it gives way.
        run.due("shelf(7)", 5).due("row(7, 0)", 0).due("row(7, 1)", 2).due("row(7, 2)", 1);
        run.tell("visitor(2, 0, 0, 9)", "visitor(3, 2, 0, 9)").due("shelf(7)", 18).due("quarrel(7)", 5).due("row(7, 1)", 1);
        run.due("shelf(5)", 23).due("quarrel(5)", 0);
        // Told from either of the two, and at any place of a shelf.
        for (int x = 4; x < 12; x++) {
            for (int y = 4; y < 12; y++) {
                if (x != y) {
                    besideAmongEight(x, y);
                }
            }
        }
        // On either side.
        Run left = Books.empty().tell("visitor(1, 0, 2, 5)", "visitor(0, 2, 0, 5)").due("shelf(7)", 10);
        left.due("row(7, 0)", 1).due("row(7, 1)", 2).due("row(7, 2)", 0);
    }

    /** Of eight, the two that are beside each other come together where the lesser one would stand. */
    private static void besideAmongEight(int x, int y) {
        Run run = Books.empty().tell("visitor(1, " + x + ", " + y + ", 5)").due("shelf(4080)", 5).due("quarrel(4080)", 0);
        int low = Math.min(x, y);
        int high = Math.max(x, y);
        for (int k = 0; k < 8; k++) {
            int want = 4 + k <= low || 4 + k > high ? 4 + k : 4 + k == low + 1 ? high : 3 + k;
            run.due("row(4080, " + k + ")", want);
        }
    }

    private static void ends() {
        Sentence.ofTerms("at the left end (2), at the right end (3; y counts nothing)");
        Run one = Books.empty().tell("visitor(2, 4, 0, 7)", "visitor(3, 4, 0, 8)");
        one.due("shelf(16)", 15).due("quarrel(16)", 0).due("shelf(17)", 8).due("quarrel(17)", 7).due("row(17, 1)", 4);
        Run eight = Books.empty().tell("visitor(2, 11, 0, 1)", "visitor(3, 4, 0, 1)").due("shelf(4080)", 2);
        eight.due("row(4080, 0)", 11).due("row(4080, 1)", 5).due("row(4080, 6)", 10).due("row(4080, 7)", 4);
        Run both = Books.empty().tell("visitor(2, 1, 0, 4)", "visitor(2, 2, 0, 5)", "visitor(3, 1, 0, 3)");
        both.due("shelf(6)", 8).due("row(6, 0)", 2).due("quarrel(6)", 4);
    }

    private static void firstByThings() {
        Sentence.ofTerms("of several the first by THINGS from the left");
        Run run = Books.empty();
        for (int k = 0; k < 8; k++) {
            run.due("row(4080, " + k + ")", 4 + k);
        }
        Run tie = Books.empty().tell("visitor(0, 0, 1, 5)", "visitor(0, 1, 0, 5)").due("row(3, 0)", 0).due("quarrel(3)", 5);
        tie.tell("visitor(0, 1, 0, 1)").due("row(3, 0)", 1).due("quarrel(3)", 5).due("shelf(3)", 6);
        // The greatest sum goes ahead of what is first by things.
        Run late = Books.empty().tell("visitor(3, 0, 0, 1)").due("row(15, 0)", 1).due("row(15, 1)", 2).due("row(15, 3)", 0);
        late.tell("visitor(2, 0, 0, 1)").due("row(15, 0)", 0).due("row(15, 3)", 3).due("shelf(15)", 1);
    }

    private static void quarrelOfTheRest() {
        Sentence.ofTerms("QUARREL: the sum of TRUST of those that don't hold");
        Books.empty().due("quarrel(1)", 0).due("quarrel(255)", 0);
        Run run = Books.empty().tell("visitor(0, 0, 1, 9)").due("quarrel(3)", 0);
        run.tell("visitor(0, 1, 0, 1)").due("quarrel(3)", 1).tell("visitor(0, 1, 0, 7)").due("quarrel(3)", 8);
        run.tell("visitor(0, 1, 0, 2)").due("quarrel(3)", 9).due("shelf(3)", 10).due("quarrel(1)", 0);
        Sentence.ofPromise("quarrel", "QUARREL of the BEST ROW. Refused as shelf().");
        run.refused("quarrel(0)", -1).refused("quarrel(4096)", -1).refused("quarrel(511)", -6).due("quarrel(255)", 9);
    }

    private static void places() {
        Sentence.ofPromise("row", "-9 there is none. Refused as shelf().");
        Run run = Books.empty().due("row(32, 0)", 5).due("row(32, 1)", -9).due("row(32, -1)", -9).due("row(255, 7)", 7);
        run.due("row(255, 8)", -9).due("count(11)", 0);
        // A shelf that had more things leaves nothing behind for one that has fewer.
        run.due("row(7, 2)", 2).due("row(7, 3)", -9).due("row(7, 7)", -9);
        run.refused("row(0, 0)", -1).refused("row(4096, 0)", -1).refused("row(511, 0)", -6).refused("row(511, 8)", -6);
    }

    private static void mostTrust() {
        Sentence.ofPromise("shelf", "BEST ROW of a SHELF (bits of THINGS): the sum of TRUST that holds.");
        Run one = Books.empty().tellTimes(40, "visitor(2, 11, 0, 9)").due("shelf(2048)", 360).due("shelf(4080)", 360);
        one.due("quarrel(4080)", 0).due("shelf(255)", 0);
        Run split = Books.empty().tellTimes(20, "visitor(1, 0, 1, 9)").tellTimes(20, "visitor(1, 10, 11, 9)");
        split.due("shelf(3)", 180).due("shelf(3072)", 180).due("shelf(3075)", 360).due("quarrel(3075)", 0);
        Run apart = Books.empty().tellTimes(20, "visitor(0, 0, 1, 9)").tellTimes(20, "visitor(0, 1, 0, 9)");
        apart.due("shelf(255)", 180).due("quarrel(255)", 180).due("row(255, 0)", 0);
        // A word told behind a row that was asked for changes it.
        Run asked = Books.empty().due("shelf(3)", 0).due("row(3, 0)", 0).tell("visitor(0, 1, 0, 1)").due("shelf(3)", 1);
        asked.due("row(3, 0)", 1);
    }

    /** A word that is told again is one more: each of them counts, at either end and on either side. */
    private static void toldAgain() {
        Sentence.ofTerms("of all rows of the SHELF's THINGS that with the greatest sum of TRUST of WORDS that hold");
        for (int sort = 0; sort < 4; sort++) {
            for (int x = 0; x < 2; x++) {
                String word = "visitor(" + sort + ", " + x + ", " + (1 - x) + ", ";
                Run run = Books.empty().tell(word + "4)", word + "5)").due("shelf(3)", 9).due("quarrel(3)", 0);
                run.tell(word + "9)").due("shelf(3)", 18).due("quarrel(3)", 0).due("count(6)", 3);
                toldAgainInRow(sort, x, 0);
                toldAgainInRow(sort, x, 1);
            }
        }
    }

    /** Stronger words tell which of the two stands left: then the words told again hold all, or none of them does. */
    private static void toldAgainInRow(int sort, int x, int left) {
        String word = "visitor(" + sort + ", " + x + ", " + (1 - x) + ", ";
        Run run = Books.empty().tell(word + "2)", word + "3)");
        run.tellTimes(2, "visitor(0, " + left + ", " + (1 - left) + ", 9)");
        boolean holds = sort == 1 || (sort == 3 ? left != x : left == x);
        run.due("row(3, 0)", left).due("shelf(3)", holds ? 23 : 18).due("quarrel(3)", holds ? 0 : 5);
    }

    private static void kindsAtFirst() {
        Sentence.ofTerms("PARTS 0 .. 9, each of a KIND (0 .. 5; 0 at first)");
        Run run = Books.empty();
        for (int p = 0; p < 10; p++) {
            run.due("part(" + p + ", 5)", 0).due("part(" + p + ", 0)", 5).due("part(" + p + ", 0)", 0);
        }
        run.refused("part(10, 0)", -1).refused("part(-1, 0)", -1).refused("part(9, 6)", -6).refused("part(9, -1)", -4);
    }

    private static void clashesInTwos() {
        Sentence.ofTerms("KINDS that can't be together: CLASHES, told in twos");
        Run run = Books.empty();
        int told = 0;
        for (int a = 0; a < 6; a++) {
            for (int b = 0; b < a; b++) {
                run.due("clash(" + a + ", " + b + ", false)", 0).due("clash(" + a + ", " + b + ", true)", 1);
                told++;
                run.due("clash(" + b + ", " + a + ", true)", 0).due("count(8)", told);
            }
        }
        for (int a = 0; a < 6; a++) {
            for (int b = a + 1; b < 6; b++) {
                run.due("clash(" + a + ", " + b + ", false)", 1);
                told--;
                run.due("clash(" + b + ", " + a + ", false)", 0).due("count(8)", told);
            }
        }
        Sentence.ofPromise("clash", "KINDS a and b CLASH, or not: 1; 0 if it was so.");
        Run again = Books.empty().due("clash(5, 0, true)", 1).due("clash(0, 5, true)", 0).due("clash(0, 5, false)", 1);
        again.due("clash(5, 0, false)", 0).due("clash(5, 0, true)", 1).due("count(8)", 1).due("count(13)", 0);
    }

    private static void twoOfItsParts() {
        Sentence.ofTerms("it is A FAKE if two of its PARTS are of KINDS that CLASH");
        Run run = Books.empty().tell("part(9, 5)", "part(8, 5)", "clash(5, 0, true)");
        run.due("fake(0)", 0).due("fake(512)", 0).due("fake(1)", 0).due("fake(768)", 0).due("fake(255)", 0);
        run.due("fake(513)", 1).due("fake(257)", 1).due("fake(1023)", 1);
        run.tell("part(0, 4)").due("fake(513)", 0).due("fake(515)", 1).tell("clash(4, 5, true)").due("fake(513)", 1);
        run.tell("clash(5, 4, false)", "clash(0, 5, false)").due("fake(1023)", 0);
        run.refused("fake(1024)", -1).refused("fake(-1)", -1).refused("fake(-2147483648)", -1);
    }

    private static void fewestThenLeastBits() {
        Sentence.ofTerms("LEAST FAKE: the least set of its PARTS (fewest, then least bits) without which it is none");
        // Parts 0 to 4 are of kind 0, the rest of kind 1.
        Run run = Books.empty().tell("part(5, 1)", "part(6, 1)", "part(7, 1)", "part(8, 1)", "part(9, 1)", "clash(0, 1, true)");
        run.due("least(1023)", 31).due("least(1022)", 30).due("least(511)", 480).due("least(33)", 1).due("least(99)", 3);
        run.due("least(35)", 32).due("least(97)", 1).due("least(31)", 0).due("least(992)", 0);
        // One in the middle that clashes with two others is fewer than these two.
        Run middle = Books.empty().tell("part(1, 1)", "part(9, 2)", "clash(2, 0, true)", "clash(2, 1, true)");
        middle.due("least(515)", 512).due("least(513)", 1).due("least(514)", 2).due("least(3)", 0);
    }

    private static void noneAndAll() {
        Sentence.ofPromise("least", "LEAST FAKE: the set (0: it is none). -1.");
        Books.empty().due("least(0)", 0).due("least(1)", 0).due("least(1023)", 0).due("least(512)", 0);
        Run run = Books.empty();
        for (int a = 1; a < 6; a++) {
            run.tellTimes(a, "clash(" + a + ", #, true)").tell("part(" + a + ", " + a + ")");
        }
        // All but one of kinds that all clash; and of ten parts five are of kind 0 with the first one.
        run.due("least(63)", 31).due("least(0)", 0).due("least(32)", 0).due("least(1023)", 62);
        run.refused("least(1024)", -1).refused("least(-1)", -1).refused("least(-2147483648)", -1);
        run.refused("least(2147483647)", -1).refused("least(1025)", -1);
    }

    private static void counts() {
        Sentence.ofPromise("count", "0 .. 3 ENTRIES of CATALOGUE 0 .. 3, 4 SIGHTS, 5 MOVES, 6 VISITORS' WORDS, 7 BARS, "
                + "8 CLASHES, 9 records that are WITHDRAWN");
        int[] full = {10, 10, 10, 10, 60, 60, 40, 30, 15, 0, -9, 0, 0, 0, 0, 0, 0, -9};
        Run run = Books.full();
        for (int what = 0; what < full.length; what++) {
            run.due("count(" + what + ")", full[what]);
        }
        for (int n = 0; n < 60; n++) {
            run.due("withdraw(true, " + n + ", 80000)", 1).due("withdraw(false, " + n + ", 80000)", 1);
        }
        run.due("count(9)", 120).due("count(4)", 60).due("count(5)", 60).due("withdraw(true, 59, 80000)", -3).due("count(9)", 120);
    }
}
