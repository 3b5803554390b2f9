/** Part I of the terms and promises 1 to 14: each sentence that names a boundary case, with a test of its own. */
public final class CatalogueSentencesTest {
    public static void main(String[] args) {
        newObject();
        wordsAtFirst();
        meanings();
        senses();
        yearsInAnyOrder();
        tenEntries();
        sizesBySpare();
        sensesInBoth();
        bars();
        laterIsNotAbove();
        laterIsNotTooFarBelow();
        ofOneYear();
        oneAtLeast();
        greatestLikeness();
        eachToOneAtMost();
        bestIsOfTheGreatestSum();
        joinedByOne();
        joinedAnew();
        joinedAnewBehindTwo();
        noneIsBehindAll();
        bestsAtMost();
        sureInAll();
        chainOfTwoToFour();
        chainEnds();
        doubt();
        copiedWordsAndSize();
        copiedIsNotJoined();
        copiedIsLater();
        emptyCatalogues();
        thirtyBars();
        Sentence.end();
    }

    private static void newObject() {
        Sentence.ofPromise("A", "Nothing is told.");
        Run run = Books.empty();
        for (int what = 0; what <= 16; what++) {
            run.due("count(" + what + ")", what == 10 ? -9 : 0);
        }
        for (int thing = 0; thing < 12; thing++) {
            run.due("where(" + thing + ", 80000, 80000)", -9).due("quarrels(" + thing + ", 80000)", 0);
            run.due("holds(" + thing + ", 80000, 80000, 0)", -9).due("holds(" + thing + ", 80000, 80000, 1)", -9);
            run.due("holds(" + thing + ", 80000, 80000, 2)", 0).due("since(" + thing + ", 80000, 80000)", 0);
        }
        run.due("shelf(255)", 0).due("quarrel(255)", 0).due("fake(1023)", 0).due("least(1023)", 0);
    }

    private static void wordsAtFirst() {
        Sentence.ofTerms("WORDS 0 .. 19; a book of tongues: a WORD may be told to MEAN a lesser one "
                + "(it MEANS itself at first)");
        Run run = Books.empty();
        for (int word = 0; word < 20; word++) {
            run.due("sense(" + word + ")", word).due("means(" + word + ", 0)", word);
        }
        run.refused("sense(20)", -1).refused("means(20, 0)", -1).refused("sense(-1)", -1).refused("means(-1, -1)", -1);
    }

    private static void meanings() {
        Sentence.ofPromise("means", "A WORD MEANS another one (a lesser one, or itself): what it MEANT");
        Run run = Books.empty().due("means(10, 9)", 10).due("means(10, 0)", 9).due("means(10, 10)", 0);
        run.due("means(10, 10)", 10).refused("means(10, 11)", -4).due("means(10, 3)", 10);
        // What it MEANT is what was told, not its SENSE.
        run.tell("means(3, 1)").due("sense(10)", 1).due("means(10, 4)", 3);
        run.refused("means(0, 1)", -4).due("means(0, 0)", 0);
    }

    private static void senses() {
        Sentence.ofTerms("its SENSE is what it MEANS, or what that MEANS, and so on");
        Run down = Books.empty();
        for (int word = 1; word < 20; word++) {
            down.tell("means(" + word + ", " + (word - 1) + ")");
        }
        Run up = Books.empty();
        for (int word = 19; word > 0; word--) {
            up.tell("means(" + word + ", " + (word - 1) + ")");
        }
        for (int word = 0; word < 20; word++) {
            down.due("sense(" + word + ")", 0);
            up.due("sense(" + word + ")", 0);
        }
        up.tell("means(1, 1)").due("sense(19)", 1).due("sense(0)", 0);
        up.tell("means(19, 19)").due("sense(19)", 19).due("sense(18)", 1);
    }

    private static void yearsInAnyOrder() {
        Sentence.ofTerms("CATALOGUES 0 .. 3, each with a YEAR (1500 .. 1900; 1500 at first; in any order)");
        Run run = Books.empty();
        for (int c = 0; c < 4; c++) {
            run.due("year(" + c + ", " + (1900 - c) + ")", 1500);
        }
        run.due("year(0, 1897)", 1900).due("year(1, 1897)", 1899).due("year(2, 1500)", 1898).due("year(3, 1900)", 1897);
        run.due("year(3, 1900)", 1900).due("year(2, 1500)", 1500);
        run.refused("year(3, 1901)", -6).refused("year(2, 1499)", -4).refused("year(4, 1700)", -1);
    }

    private static void tenEntries() {
        Sentence.ofTerms("ENTRIES of a CATALOGUE have numbers from 0 on (10 at most)");
        for (int c = 0; c < 4; c++) {
            Run run = Books.empty();
            for (int n = 0; n < 10; n++) {
                run.due("count(" + c + ")", n).due("entry(" + c + ", 1, 1, 0, 0)", n);
            }
            run.refused("entry(" + c + ", 1, 1, 0, 0)", -6).due("count(" + c + ")", 10);
            int next = (c + 1) % 4;
            run.due("entry(" + next + ", 1, 1, 0, 0)", 0).due("count(" + next + ")", 1);
        }
        Sentence.ofPromise("entry", "-6 (10, too)");
        Run nine = Books.alike(9);
        nine.due("entry(2, 1, 1, 0, 0)", 9).due("entry(2, 1, 1, 0, 0)", -6).due("count(16)", 1).due("count(2)", 10);
    }

    /** One entry of catalogue 0 and one of catalogue 1, told as words, size, room and colour. */
    private static Run pair(String first, String second) {
        return Books.empty().tell("entry(0, " + first + ")", "entry(1, " + second + ")");
    }

    private static void like(Run run, int want) {
        run.due("like(0, 0, 1, 0)", want).due("like(1, 0, 0, 0)", want);
    }

    private static void sizesBySpare() {
        Sentence.ofTerms("BARRED if their SIZES differ by more than SPARE (0 .. 50; 5 at first)");
        like(pair("1, 100, 0, 5", "1, 105, 1, 5"), 5);
        like(pair("1, 100, 0, 5", "1, 106, 1, 5"), 0);
        like(pair("1, 100, 0, 5", "1, 95, 1, 5"), 5);
        like(pair("1, 100, 0, 5", "1, 94, 1, 5"), 0);
        for (int spare : new int[] {0, 1, 6, 49, 50}) {
            String told = "set(0, " + spare + ")";
            int within = Math.max(1, 20 - spare);
            like(pair("3, 100, 0, 5", "3, " + (100 + spare) + ", 1, 5").tell(told), within);
            like(pair("3, 100, 0, 5", "3, " + (101 + spare) + ", 1, 5").tell(told), 0);
            like(pair("3, 100, 0, 5", "3, " + (100 - spare) + ", 1, 5").tell(told), within);
            like(pair("3, 100, 0, 5", "3, " + (99 - spare) + ", 1, 5").tell(told), 0);
        }
        like(pair("1, 1, 0, 5", "1, 200, 0, 5").tell("set(0, 50)"), 0);
    }

    private static void sensesInBoth() {
        Sentence.ofTerms("or no SENSE is in both");
        like(pair("1, 10, 0, 5", "2, 10, 0, 5"), 0);
        like(pair("1, 10, 0, 5", "3, 10, 0, 5"), 10 - 2 + 7);
        like(pair("1, 10, 0, 5", "2, 10, 0, 5").tell("means(1, 0)"), 17);
        like(pair("1, 10, 0, 5", "524288, 10, 0, 5").tell("means(19, 1)", "means(1, 0)"), 17);
        // The same WORD in both is one SENSE, though it is another one than its own.
        like(pair("524288, 10, 0, 5", "524288, 10, 0, 5").tell("means(19, 4)"), 17);
        like(pair("1023, 10, 0, 5", "1047552, 10, 0, 5"), 0);
        Run run = pair("1, 10, 0, 5", "2, 10, 0, 5").tell("means(1, 0)").due("join(0, 1)", 17);
        run.tell("means(1, 1)").due("join(0, 1)", 0).due("joined(0, 0, 1)", -9);
    }

    private static void bars() {
        Sentence.ofTerms("or a BAR is told between them");
        Run run = Books.alike(2).tell("bar(0, 0, 1, 1)");
        run.due("like(0, 0, 1, 1)", 0).due("like(1, 1, 0, 0)", 0);
        run.due("like(0, 1, 1, 0)", 17).due("like(0, 0, 1, 0)", 17).due("like(0, 0, 2, 1)", 17).due("like(0, 1, 1, 1)", 17);
        Run last = Books.alike(10).tell("bar(3, 9, 2, 9)").due("like(2, 9, 3, 9)", 0).due("like(2, 9, 3, 8)", 17);
        last.due("like(2, 8, 3, 9)", 17).due("like(3, 9, 1, 9)", 17).due("like(2, 9, 1, 9)", 17);

        Sentence.ofPromise("bar", "A BAR between ENTRY i of a and k of b: 1; 0 if it was");
        run.due("bar(0, 0, 1, 1)", 0).due("bar(1, 1, 0, 0)", 0).due("count(7)", 1);
        run.due("bar(0, 1, 1, 0)", 1).due("bar(1, 0, 0, 1)", 0).due("count(7)", 2);
    }

    private static void laterIsNotAbove() {
        Sentence.ofTerms("the COLOUR of the later one is above that of the earlier one");
        like(pair("1, 10, 0, 50", "1, 10, 0, 50").tell("year(1, 1501)"), 17);
        like(pair("1, 10, 0, 50", "1, 10, 0, 51").tell("year(1, 1501)"), 0);
        like(pair("1, 10, 0, 50", "1, 10, 0, 49").tell("year(1, 1501)"), 17);
        like(pair("1, 10, 0, 50", "1, 10, 0, 50").tell("year(0, 1501)"), 17);
        like(pair("1, 10, 0, 51", "1, 10, 0, 50").tell("year(0, 1501)"), 0);
        like(pair("1, 10, 0, 50", "1, 10, 0, 51").tell("year(0, 1501)"), 17);
        like(pair("1, 10, 0, 0", "1, 10, 0, 99").tell("year(1, 1900)", "set(1, 9)"), 0);
    }

    private static void laterIsNotTooFarBelow() {
        Sentence.ofTerms("or below it by more than Y times FADE (0 .. 9; 1 at first) and 5");
        for (int years : new int[] {0, 1, 2, 10}) {
            for (int fade : new int[] {0, 1, 9}) {
                int most = years * fade + 5;
                String[] told = {"year(1, " + (1600 + years) + ")", "year(0, 1600)", "set(1, " + fade + ")"};
                String[] other = {"year(0, " + (1600 + years) + ")", "year(1, 1600)", "set(1, " + fade + ")"};
                like(pair("1, 10, 0, 99", "1, 10, 0, " + (99 - most)).tell(told), 17);
                like(pair("1, 10, 0, 99", "1, 10, 0, " + (98 - most)).tell(told), 0);
                if (years > 0) {
                    like(pair("1, 10, 0, " + (99 - most), "1, 10, 0, 99").tell(other), 17);
                    like(pair("1, 10, 0, " + (98 - most), "1, 10, 0, 99").tell(other), 0);
                }
            }
        }
        like(pair("1, 10, 0, 50", "1, 10, 0, 44").tell("year(1, 1501)"), 17);
        like(pair("1, 10, 0, 50", "1, 10, 0, 43").tell("year(1, 1501)"), 0);
        like(pair("1, 10, 0, 99", "1, 10, 0, 0").tell("year(1, 1900)", "set(1, 9)"), 17);
        like(pair("1, 10, 0, 99", "1, 10, 0, 0").tell("year(1, 1900)", "set(1, 0)"), 0);
    }

    private static void ofOneYear() {
        Sentence.ofTerms("(of one YEAR: the CATALOGUE of the lesser number is the earlier one)");
        for (int year : new int[] {1500, 1700, 1900}) {
            String[] told = {"year(0, " + year + ")", "year(1, " + year + ")"};
            like(pair("1, 10, 0, 50", "1, 10, 0, 45").tell(told), 17);
            like(pair("1, 10, 0, 50", "1, 10, 0, 44").tell(told), 0);
            like(pair("1, 10, 0, 50", "1, 10, 0, 51").tell(told), 0);
            like(pair("1, 10, 0, 50", "1, 10, 0, 50").tell(told), 17);
        }
        Run last = Books.empty().tell("entry(2, 1, 10, 0, 9)", "entry(3, 1, 10, 0, 8)", "entry(1, 1, 10, 0, 10)");
        last.due("like(2, 0, 3, 0)", 17).due("like(3, 0, 2, 0)", 17).due("like(1, 0, 3, 0)", 17).due("like(2, 0, 1, 0)", 17);
        last.tell("year(2, 1501)").due("like(2, 0, 3, 0)", 0).due("like(1, 0, 2, 0)", 17);
    }

    private static void oneAtLeast() {
        Sentence.ofTerms("less 2 for each that is in just one of them, less the difference of SIZES, "
                + "7 more if the ROOM is the same; 1 at least");
        String wide = "set(0, 50)";
        like(pair("1, 20, 0, 5", "3, 26, 1, 5").tell(wide), 2);
        like(pair("1, 20, 0, 5", "3, 27, 1, 5").tell(wide), 1);
        like(pair("1, 20, 0, 5", "3, 28, 1, 5").tell(wide), 1);
        like(pair("1, 20, 0, 5", "3, 29, 1, 5").tell(wide), 1);
        like(pair("1, 20, 0, 5", "3, 33, 0, 5").tell(wide), 2);
        like(pair("1, 20, 0, 5", "3, 34, 0, 5").tell(wide), 1);
        like(pair("1, 20, 0, 5", "3, 35, 0, 5").tell(wide), 1);
        like(pair("1, 1, 0, 5", "1048575, 51, 1, 5").tell(wide), 1);
        like(pair("3, 10, 0, 5", "6, 10, 1, 5"), 10 - 4);
        like(pair("1, 10, 9, 5", "1, 10, 9, 5"), 17);
        like(pair("1, 10, 9, 5", "1, 10, 8, 5"), 10);
    }

    private static void greatestLikeness() {
        Sentence.ofTerms("Else: 10 for each SENSE that is in both");
        like(pair("1048575, 200, 9, 99", "1048575, 200, 9, 99"), 207);
        like(pair("1048575, 200, 9, 99", "1048575, 200, 8, 99"), 200);
        // Two WORDS of one SENSE are one.
        like(pair("1048575, 200, 9, 99", "1048575, 200, 9, 99").tell("means(19, 0)"), 197);
        Run one = pair("1048575, 200, 9, 99", "1048575, 200, 9, 99");
        for (int word = 1; word < 20; word++) {
            one.tell("means(" + word + ", " + (word - 1) + ")");
        }
        like(one, 17);
    }

    private static void eachToOneAtMost() {
        Sentence.ofTerms("joins ENTRIES of the one to ENTRIES of the other, each to one at most, none that are BARRED");
        Run run = Books.empty().tell("entry(0, 1, 10, 0, 5)").tellTimes(10, "entry(1, 1, 10, 0, 5)");
        run.due("join(0, 1)", 17).due("join(1, 0)", 17).due("joined(0, 0, 1)", 0).due("joined(1, 0, 0)", 0);
        for (int k = 1; k < 10; k++) {
            run.due("joined(1, " + k + ", 0)", -9);
        }
        for (int k = 0; k < 9; k++) {
            run.tell("bar(0, 0, 1, " + k + ")").due("joined(0, 0, 1)", k + 1).due("join(0, 1)", 17);
        }
        run.tell("bar(0, 0, 1, 9)").due("joined(0, 0, 1)", -9).due("join(0, 1)", 0).due("bests(0, 1)", 1);
        Run full = Books.alike(10).due("join(0, 1)", 170).due("join(3, 0)", 170);
        for (int i = 0; i < 10; i++) {
            full.due("joined(2, " + i + ", 3)", i);
        }
    }

    /**
     * Two entries each: 0 and 0 bring 20; 0 and 1 bring 15, 1 and 0 bring 8 less what the last one's size is
     * off; 1 and 1 are barred.
     */
    private static Run contest(int off) {
        return Books.empty().tell("entry(0, 3, 10, 0, 5)", "entry(0, 1, " + (10 + off) + ", 2, 5)",
                "entry(1, 3, 10, 1, 5)", "entry(1, 1, 10, 0, 5)", "bar(0, 1, 1, 1)");
    }

    private static void bestIsOfTheGreatestSum() {
        Sentence.ofTerms("BEST: of the greatest sum of LIKENESSES");
        contest(2).due("join(0, 1)", 21).due("joined(0, 0, 1)", 1).due("joined(0, 1, 1)", 0).due("bests(0, 1)", 1);
        contest(3).due("join(0, 1)", 20).due("bests(0, 1)", 2);
        contest(4).due("join(0, 1)", 20).due("joined(0, 0, 1)", 0).due("joined(0, 1, 1)", -9).due("bests(0, 1)", 1);
        Sentence.ofPromise("join", "The sum of the BEST JOINING of a and b.");
        contest(2).due("join(1, 0)", 21);
        contest(3).due("join(1, 0)", 20);
        contest(4).due("join(1, 0)", 20);
        Books.alike(10).tell("set(0, 0)").due("join(0, 3)", 170).due("join(2, 1)", 170);
    }

    /** The least likeness that isn't barred is 1: it is joined, too, and counts. */
    private static void joinedByOne() {
        Sentence.ofTerms("7 more if the ROOM is the same; 1 at least");
        Run run = pair("1, 10, 0, 5", "1023, 10, 1, 5").due("like(0, 0, 1, 0)", 1).due("join(0, 1)", 1);
        run.due("joined(0, 0, 1)", 0).due("joined(1, 0, 0)", 0).due("bests(0, 1)", 1).due("sure(0, 0, 1)", 1);
        run.due("chain(0, 0, 2, 2)", 99);
        run.tell("entry(0, 1, 10, 0, 5)", "entry(1, 1023, 10, 1, 5)").due("join(0, 1)", 2).due("bests(0, 1)", 2);
        run.due("joined(0, 1, 1)", 1).tell("entry(0, 1, 10, 1, 5)").due("join(0, 1)", 2).due("bests(0, 1)", 6);
    }

    /** What was asked ahead of a change is no answer behind it. */
    private static void joinedAnew() {
        Sentence.ofPromise("join", "The sum of the BEST JOINING of a and b.");
        Run run = pair("1, 10, 0, 50", "1, 16, 0, 40").due("join(0, 1)", 0).due("join(1, 0)", 0);
        run.tell("set(0, 6)").due("join(0, 1)", 0).tell("year(1, 1505)").due("join(0, 1)", 11).due("join(1, 0)", 11);
        run.tell("set(1, 0)").due("join(0, 1)", 0).due("join(1, 0)", 0).tell("set(1, 1)").due("join(0, 1)", 11);
        run.tell("set(0, 5)").due("join(0, 1)", 0).tell("set(0, 6)").due("joined(0, 0, 1)", 0).due("sure(0, 0, 1)", 1);
        run.tell("year(1, 1504)").due("joined(0, 0, 1)", -9).due("sure(0, 0, 1)", 0).tell("year(1, 1505)");
        run.due("join(0, 1)", 11).tell("entry(0, 1, 16, 0, 40)").due("join(0, 1)", 17).due("joined(0, 1, 1)", 0);
        run.tell("bar(0, 1, 1, 0)").due("join(0, 1)", 11).due("joined(0, 0, 1)", 0).due("joined(0, 1, 1)", -9);
        run.tell("entry(1, 2, 16, 0, 40)").due("joined(0, 1, 1)", -9).tell("means(1, 0)").due("joined(0, 1, 1)", 1);
        run.due("join(1, 0)", 28).due("chain(0, 1, 2, 0)", 1).due("bests(0, 1)", 1);
    }

    /** Two changes between two questions, of which the one has nothing to do with what is asked. */
    private static void joinedAnewBehindTwo() {
        Sentence.ofPromise("joined", "To which ENTRY of b ENTRY i of a is joined in the BEST; -9 none.");
        String[] idle = {"means(19, 18)", "year(2, 1600)", "entry(3, 1, 1, 0, 0)", "set(0, 6)", "set(1, 2)", "bar(0, 1, 1, 1)"};
        String[] parting = {"year(0, 1501)", "set(0, 4)", "set(1, 0)", "bar(0, 0, 1, 0)"};
        for (String one : idle) {
            for (String other : parting) {
                apart(Books.empty(), one, other);
                apart(Books.empty(), other, one);
            }
        }
        for (String one : idle) {
            Run means = pair("1, 10, 0, 5", "2, 10, 0, 5").tell("entry(0, 4, 10, 0, 5)", "entry(1, 8, 10, 0, 5)");
            means.due("join(0, 1)", 0).tell("means(1, 0)", one).due("join(0, 1)", 17).due("joined(0, 0, 1)", 0);
            Run entry = Books.empty().tellTimes(2, "entry(0, 1, 10, 0, 5)").tellTimes(2, "entry(1, 2, 10, 0, 5)");
            entry.due("join(0, 1)", 0).tell("entry(1, 1, 10, 0, 5)", one).due("join(0, 1)", 17).due("joined(0, 0, 1)", 2);
        }
    }

    /** Joined at first, and no more when both have been told, in whatever order. */
    private static void apart(Run run, String first, String second) {
        run.tell("entry(0, 1, 10, 0, 10)", "entry(1, 1, 15, 0, 4)", "entry(0, 2, 90, 0, 5)", "entry(1, 4, 90, 0, 5)");
        run.tell("year(1, 1501)").due("join(0, 1)", 12).due("joined(0, 0, 1)", 0);
        run.tell(first, second);
        // The last spare told counts, so a wider one behind a narrower one joins them again.
        boolean wide = first.equals("set(0, 4)") && second.equals("set(0, 6)");
        boolean fast = first.equals("set(1, 0)") && second.equals("set(1, 2)");
        run.due("joined(0, 0, 1)", wide || fast ? 0 : -9).due("join(0, 1)", wide || fast ? 12 : 0);
    }

    private static void noneIsBehindAll() {
        Sentence.ofTerms("told as the one in which the first ENTRY of a is joined to the least of b "
                + "(none is behind all), then the second one, and so on");
        contest(3).due("joined(0, 0, 1)", 0).due("joined(0, 1, 1)", -9);
        contest(3).due("joined(1, 0, 0)", 0).due("joined(1, 1, 0)", -9);
        // Ten ask for one: the first has it, though the last could as well.
        Run run = Books.empty().tellTimes(10, "entry(0, 1, 10, 0, 5)").tell("entry(1, 1, 10, 0, 5)");
        for (int i = 0; i < 10; i++) {
            run.due("joined(0, " + i + ", 1)", i == 0 ? 0 : -9);
        }
        run.due("bests(0, 1)", 10).due("joined(1, 0, 0)", 0);
        for (int i = 0; i < 9; i++) {
            run.tell("bar(0, " + i + ", 1, 0)").due("joined(0, " + (i + 1) + ", 1)", 0);
            run.due("joined(0, " + i + ", 1)", -9).due("bests(0, 1)", 9 - i);
        }
        // Told from the other side the first of the other one goes first.
        Run sides = Books.alike(2).tell("entry(1, 1, 10, 0, 5)", "bar(0, 0, 1, 0)", "bar(0, 0, 1, 1)");
        sides.due("joined(0, 0, 1)", 2).due("joined(0, 1, 1)", 0);
        sides.due("joined(1, 0, 0)", 1).due("joined(1, 1, 0)", -9).due("joined(1, 2, 0)", 0);
    }

    private static void bestsAtMost() {
        Sentence.ofPromise("bests", "BESTS of a and b (1000000 at most).");
        // Counted apart from this class: the joinings of ten and ten that these bars leave.
        int[] below = {3, 6, 7, 20, 27, 29, 61, 67, 80, 82, 90};
        int[] above = {6, 10, 23, 42, 45, 53, 55, 56, 59, 73, 99};
        Run less = Books.alike(10);
        Run more = Books.alike(10);
        for (int n = 0; n < below.length; n++) {
            less.tell("bar(0, " + below[n] / 10 + ", 1, " + below[n] % 10 + ")");
            more.tell("bar(0, " + above[n] / 10 + ", 1, " + above[n] % 10 + ")");
        }
        less.due("bests(0, 1)", 999960).due("bests(1, 0)", 999960).due("join(0, 1)", 170);
        more.due("bests(0, 1)", 1000000).due("bests(1, 0)", 1000000).due("join(0, 1)", 170);
        Books.alike(10).due("bests(0, 1)", 1000000);
        Books.alike(9).due("bests(0, 1)", 362880).tell("entry(0, 1, 10, 0, 5)").due("bests(0, 1)", 1000000);
        Books.empty().due("bests(0, 1)", 1).due("bests(3, 2)", 1);
        Books.alike(1).due("bests(0, 1)", 1).tell("bar(0, 0, 1, 0)").due("bests(0, 1)", 1);
        Books.alike(2).due("bests(0, 1)", 2);
    }

    private static void sureInAll() {
        Sentence.ofPromise("sure", "Whether ENTRY i of a is SURE (joined to the same one in all BESTS): 1, 0.");
        contest(2).due("sure(0, 0, 1)", 1).due("sure(0, 1, 1)", 1).due("sure(1, 0, 0)", 1).due("sure(1, 1, 0)", 1);
        contest(3).due("sure(0, 0, 1)", 0).due("sure(0, 1, 1)", 0).due("sure(1, 0, 0)", 0).due("sure(1, 1, 0)", 0);
        contest(4).due("sure(0, 0, 1)", 1).due("sure(0, 1, 1)", 0).due("sure(1, 0, 0)", 1).due("sure(1, 1, 0)", 0);
        // Joined in one best and not in another is not sure, nor is what is joined in none.
        Run run = Books.alike(1).tell("entry(0, 1, 10, 0, 5)").due("sure(0, 0, 1)", 0).due("sure(0, 1, 1)", 0);
        run.due("sure(1, 0, 0)", 0).tell("bar(0, 0, 1, 0)").due("sure(0, 0, 1)", 0).due("sure(0, 1, 1)", 1);
        Books.empty().tell("entry(0, 1, 10, 0, 5)").due("sure(0, 0, 1)", 0);
        // One is sure among many that are not, at the far end of a full catalogue.
        Run full = Books.alike(9);
        full.tell("entry(0, 2, 10, 0, 5)", "entry(1, 2, 10, 0, 5)").due("sure(0, 9, 1)", 1).due("sure(1, 9, 0)", 1);
        full.due("sure(0, 8, 1)", 0).due("sure(1, 0, 0)", 0).due("bests(0, 1)", 362880);
    }

    private static void chainOfTwoToFour() {
        Sentence.ofTerms("by way of a row of CATALOGUES told (a first, b last, 2 to 4, none twice)");
        Run run = Books.alike(1);
        run.due("chain(0, 0, 2, 1)", 1).due("chain(0, 0, 24, 1)", 2).due("chain(0, 0, 243, 1)", 3);
        run.due("chain(3, 0, 1, 1)", 1).due("chain(3, 0, 12, 1)", 2).due("chain(3, 0, 321, 1)", 3);
        run.refused("chain(0, 0, 0, 1)", -1).refused("chain(0, 0, 2431, 1)", -1).refused("chain(0, 0, 2432, 1)", -1);
        run.refused("chain(0, 0, 1, 1)", -1).refused("chain(0, 0, 21, 1)", -1).refused("chain(0, 0, 231, 1)", -1);
        run.refused("chain(0, 0, 22, 1)", -1).refused("chain(0, 0, 223, 1)", -1).refused("chain(0, 0, 232, 1)", -1);
        run.refused("chain(0, 0, 233, 1)", -1);
        run.refused("chain(0, 0, 5, 1)", -1).refused("chain(0, 0, 25, 1)", -1).refused("chain(0, 0, 523, 1)", -1);
        run.refused("chain(0, 0, 20, 1)", -1).refused("chain(0, 0, 203, 1)", -1).refused("chain(0, 0, 230, 1)", -1);
    }

    /** Entry 0 of catalogue 0 leads to 1 of 1, 0 of 2 and 1 of 3. */
    private static Run winding() {
        return Books.empty().tell("entry(0, 1, 10, 0, 5)", "entry(1, 2, 10, 0, 5)", "entry(1, 1, 11, 0, 5)",
                "entry(2, 1, 12, 0, 5)", "entry(3, 2, 12, 0, 5)", "entry(3, 1, 12, 0, 5)");
    }

    private static void chained(Run run, int entry, int steps, int doubt) {
        run.due("chain(0, 0, 234, 0)", entry).due("chain(0, 0, 234, 1)", steps).due("chain(0, 0, 234, 2)", doubt);
    }

    private static void chainEnds() {
        Sentence.ofTerms("from one to the next by BEST joinings; it ends where it isn't joined");
        chained(winding(), 1, 3, 84 + 84 + 83);
        chained(winding().tell("bar(2, 0, 3, 1)"), -9, 2, 84 + 84);
        chained(winding().tell("bar(1, 1, 2, 0)"), -9, 1, 84);
        chained(winding().tell("bar(0, 0, 1, 1)"), -9, 0, 0);
        Sentence.ofPromise("chain", "(-9: it ends ahead of that), 1 how many steps it makes, 2 DOUBT of these");
        winding().due("chain(1, 0, 3, 0)", -9).due("chain(1, 0, 3, 1)", 0).due("chain(1, 0, 3, 2)", 0);
        winding().due("chain(3, 1, 321, 0)", 0).due("chain(3, 1, 321, 2)", 84 + 84 + 83).due("chain(3, 0, 2, 0)", 0);
        Books.empty().tell("entry(0, 1, 10, 0, 5)").due("chain(0, 0, 432, 0)", -9).due("chain(0, 0, 432, 1)", 0);
    }

    private static void doubt() {
        Sentence.ofTerms("DOUBT: the sum over its steps of 100 less LIKENESS (0 at least) and 50 if it is not SURE");
        String wide = "set(0, 50)";
        pair("1023, 20, 0, 5", "1023, 22, 1, 5").tell(wide).due("like(0, 0, 1, 0)", 98).due("chain(0, 0, 2, 2)", 2);
        pair("1023, 20, 0, 5", "1023, 21, 1, 5").tell(wide).due("like(0, 0, 1, 0)", 99).due("chain(0, 0, 2, 2)", 1);
        pair("1023, 20, 0, 5", "1023, 20, 1, 5").tell(wide).due("like(0, 0, 1, 0)", 100).due("chain(0, 0, 2, 2)", 0);
        pair("1023, 20, 0, 5", "1023, 26, 0, 5").tell(wide).due("like(0, 0, 1, 0)", 101).due("chain(0, 0, 2, 2)", 0);
        pair("1048575, 20, 0, 5", "1048575, 20, 0, 5").due("like(0, 0, 1, 0)", 207).due("chain(0, 0, 2, 2)", 0);
        // What one step is above 100 is not taken off another one.
        Run run = pair("1048575, 20, 0, 5", "1048575, 20, 0, 5").tell("entry(2, 1, 20, 0, 5)");
        run.due("chain(0, 0, 23, 2)", 99).due("chain(2, 0, 21, 2)", 99);
        Books.alike(2).due("chain(0, 1, 2, 2)", 83 + 50).due("chain(0, 1, 234, 2)", 3 * (83 + 50));
        Books.alike(2).tell("bar(0, 0, 1, 0)").due("chain(0, 1, 2, 2)", 83).due("chain(0, 1, 23, 2)", 83 + 83 + 50);
        pair("1048575, 20, 0, 5", "1048575, 20, 0, 5").tell("entry(1, 1048575, 20, 0, 5)").due("chain(0, 0, 2, 2)", 50);
    }

    private static void copiedWordsAndSize() {
        Sentence.ofTerms("if it has the very same WORDS (not SENSES) and SIZE");
        String[] later = {"year(1, 1501)", "bar(0, 0, 1, 0)"};
        pair("3, 10, 0, 5", "3, 10, 9, 99").tell(later).due("copied(0, 1, 0)", 0);
        pair("3, 10, 0, 5", "3, 11, 0, 5").tell(later).due("copied(0, 1, 0)", -9);
        pair("3, 10, 0, 5", "3, 9, 0, 5").tell(later).due("copied(0, 1, 0)", -9);
        pair("3, 10, 0, 5", "2, 10, 0, 5").tell(later).due("copied(0, 1, 0)", -9);
        pair("3, 10, 0, 5", "7, 10, 0, 5").tell(later).due("copied(0, 1, 0)", -9);
        pair("3, 10, 0, 5", "5, 10, 0, 5").tell(later).tell("means(2, 1)").due("copied(0, 1, 0)", -9);
        pair("5, 10, 0, 5", "5, 10, 0, 5").tell(later).tell("means(2, 1)").due("copied(0, 1, 0)", 0);
    }

    private static void copiedIsNotJoined() {
        Sentence.ofTerms("and, in the BEST JOINING of a and b, the ENTRY of a is not joined to it");
        Run run = Books.alike(2).tell("year(1, 1501)").due("copied(0, 1, 0)", 1).due("copied(0, 1, 1)", 0);
        run.tell("bar(0, 0, 1, 0)").due("copied(0, 1, 0)", 0).due("copied(0, 1, 1)", 1);
        Run one = Books.alike(1).tell("year(1, 1501)").due("copied(0, 1, 0)", -9);
        one.tell("bar(0, 0, 1, 0)").due("copied(0, 1, 0)", 0);
        // Barred by their colours, and so not joined: copied all the same.
        pair("1, 10, 0, 5", "1, 10, 0, 6").tell("year(1, 1501)").due("copied(0, 1, 0)", 0);

        Sentence.ofPromise("copied", "The least ENTRY of a from which ENTRY k of b is COPIED; -9 none.");
        Run ten = Books.alike(10).tell("year(1, 1501)").due("copied(0, 1, 0)", 1).due("copied(0, 1, 9)", 0);
        ten.due("copied(2, 1, 5)", 0);
        Run last = Books.empty().tellTimes(9, "entry(0, 2, 10, 0, 5)").tell("entry(0, 1, 10, 0, 5)");
        last.tell("entry(1, 1, 10, 0, 5)", "year(1, 1501)", "bar(0, 9, 1, 0)").due("copied(0, 1, 0)", 9);
        Books.empty().tell("entry(1, 1, 10, 0, 5)", "year(1, 1501)").due("copied(0, 1, 0)", -9);
        // None of ten, which are as many as there may be.
        Run none = Books.empty().tellTimes(10, "entry(0, 2, 10, 0, 5)").tellTimes(10, "entry(1, 1, 10, 0, 5)");
        none.tell("year(1, 1501)").due("copied(0, 1, 0)", -9).due("copied(0, 1, 9)", -9);
    }

    private static void copiedIsLater() {
        Sentence.ofPromise("copied", "-3 b is not later by YEARS");
        Run run = Books.alike(1).refused("copied(0, 1, 0)", -3).refused("copied(1, 0, 0)", -3);
        run.tell("year(0, 1700)", "year(1, 1701)").due("copied(0, 1, 0)", -9).refused("copied(1, 0, 0)", -3);
        run.tell("year(1, 1700)").refused("copied(0, 1, 0)", -3).refused("copied(1, 0, 0)", -3);
        run.tell("year(1, 1699)").refused("copied(0, 1, 0)", -3).due("copied(1, 0, 0)", -9);
        run.refused("copied(2, 2, 0)", -3).refused("copied(3, 2, 0)", -3);
        run.tell("year(0, 1500)", "year(1, 1900)").due("copied(0, 1, 0)", -9).refused("copied(1, 0, 0)", -3);
    }

    private static void emptyCatalogues() {
        Sentence.ofPromise("joined", "To which ENTRY of b ENTRY i of a is joined in the BEST; -9 none.");
        Run run = Books.empty().tellTimes(10, "entry(0, 1, 10, 0, 5)");
        for (int i = 0; i < 10; i++) {
            run.due("joined(0, " + i + ", 1)", -9).due("sure(0, " + i + ", 3)", 0);
        }
        run.refused("joined(1, 0, 0)", -1).refused("sure(1, 0, 0)", -1).refused("chain(1, 0, 1, 0)", -1);
        run.due("join(0, 1)", 0).due("join(1, 0)", 0).due("join(1, 2)", 0).due("bests(1, 0)", 1).due("bests(0, 1)", 1);
        run.refused("like(0, 0, 1, 0)", -1).refused("bar(0, 0, 1, 0)", -1).refused("copied(0, 1, 0)", -1);
    }

    private static void thirtyBars() {
        Sentence.ofPromise("bar", "-6 there are 30");
        Run run = Books.alike(10);
        for (int n = 0; n < 30; n++) {
            run.due("count(7)", n).due("bar(0, " + n / 10 + ", 1, " + n % 10 + ")", 1);
        }
        run.due("count(7)", 30).refused("bar(0, 3, 1, 0)", -6).refused("bar(2, 0, 3, 0)", -6);
        run.due("bar(1, 9, 0, 3)", -6).due("like(0, 3, 1, 9)", 17).due("count(7)", 30).due("count(16)", 1);
        run.due("join(0, 1)", 7 * 17).due("join(2, 3)", 170);
        Run twentyNine = Books.alike(10).tellTimes(10, "bar(0, 0, 1, #)").tellTimes(10, "bar(0, 1, 1, #)");
        twentyNine.tellTimes(9, "bar(0, 2, 1, #)").due("bar(3, 9, 2, 9)", 1).due("bar(3, 9, 2, 8)", -6);
        twentyNine.due("like(2, 9, 3, 9)", 0).due("like(2, 8, 3, 9)", 17);
    }
}
