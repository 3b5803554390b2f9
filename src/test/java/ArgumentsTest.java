import java.util.TreeSet;

/**
 * For each number that a call takes: the least and the greatest that are taken, the first that is refused on
 * either side, and some far off, where a shift, a mask or a product would wrap around.
 */
public final class ArgumentsTest {
    private static final int[] STRIDES = {32, 64, 128, 256, 1024, 65536, 1 << 20, 1 << 24, 1 << 30};

    public static void main(String[] args) {
        words();
        years();
        entries();
        settings();
        entryNumbers();
        joinings();
        ways();
        copies();
        sights();
        moves();
        withdrawals();
        recordQuestions();
        visitors();
        shelves();
        places();
        beasts();
        counts();
        Sentence.end();
    }

    /** An argument, told as #, between its least and its greatest value, and what is answered at these. */
    private record Argument(Run before, String call, int least, int most) {
        String with(int value) {
            return call.replace("#", String.valueOf(value));
        }

        Argument answers(int atLeast, int atMost) {
            before.again().due(with(least), atLeast);
            before.again().due(with(most), atMost);
            return this;
        }

        void refusals(int below, int above) {
            before.refused(with(least - 1), below);
            before.refused(with(Integer.MIN_VALUE), below);
            before.refused(with(Integer.MIN_VALUE + 1), below);
            before.refused(with(most + 1), above);
            before.refused(with(Integer.MAX_VALUE), above);
            for (int stride : STRIDES) {
                farOff(least - stride, below, above);
                farOff(least + stride, below, above);
            }
        }

        private void farOff(int value, int below, int above) {
            if (value < least || value > most) {
                before.refused(with(value), value < least ? below : above);
            }
        }
    }

    private static Argument argument(Run before, String call, int least, int most) {
        return new Argument(before, call, least, most);
    }

    private static void words() {
        Sentence.ofPromise("means", "A WORD MEANS another one (a lesser one, or itself): what it MEANT. -1");
        argument(Books.empty(), "means(#, 0)", 0, 19).answers(0, 19).refusals(-1, -1);
        argument(Books.empty(), "means(19, #)", 0, 19).answers(19, 19).refusals(-1, -1);

        Sentence.ofPromise("means", "-4 a greater one");
        for (int word = 0; word < 19; word++) {
            Books.empty().due("means(" + word + ", " + word + ")", word);
            Books.empty().refused("means(" + word + ", " + (word + 1) + ")", -4);
            Books.empty().refused("means(" + word + ", 19)", -4);
            Books.empty().refused("means(" + word + ", 20)", -1);
        }

        Sentence.ofPromise("sense", "SENSE of a WORD. -1.");
        argument(Books.empty(), "sense(#)", 0, 19).answers(0, 19).refusals(-1, -1);
    }

    private static void years() {
        Sentence.ofPromise("year", "YEAR of a CATALOGUE: what it was. -1; -4; -6.");
        argument(Books.empty(), "year(#, 1600)", 0, 3).answers(1500, 1500).refusals(-1, -1);
        argument(Books.empty(), "year(2, #)", 1500, 1900).answers(1500, 1500).refusals(-4, -6);
    }

    private static void entries() {
        Sentence.ofPromise("entry", "An ENTRY: its number. -1 (WORDS that there are not, too)");
        argument(Books.empty(), "entry(#, 1, 1, 0, 0)", 0, 3).answers(0, 0).refusals(-1, -1);
        for (int bit = 20; bit < 32; bit++) {
            Books.empty().refused("entry(0, " + (1 << bit) + ", 1, 0, 0)", -1);
            Books.empty().refused("entry(0, " + (1 << bit | 1) + ", 1, 0, 0)", -1);
        }
        Books.empty().refused("entry(0, -1, 1, 0, 0)", -1);
        Books.empty().refused("entry(0, 2147483647, 1, 0, 0)", -1);

        Sentence.ofPromise("entry", "-4 (no WORDS, too)");
        for (int word = 0; word < 20; word++) {
            Books.empty().due("entry(0, " + (1 << word) + ", 1, 0, 0)", 0);
        }
        argument(Books.empty(), "entry(0, #, 1, 0, 0)", 1, 1048575).answers(0, 0);
        Books.empty().refused("entry(0, 0, 1, 0, 0)", -4);

        Sentence.ofTerms("a SIZE (1 .. 200), a ROOM (0 .. 9), a COLOUR (0 .. 99)");
        argument(Books.empty(), "entry(3, 1, #, 0, 0)", 1, 200).answers(0, 0).refusals(-4, -6);
        argument(Books.empty(), "entry(3, 1, 1, #, 0)", 0, 9).answers(0, 0).refusals(-4, -6);
        argument(Books.empty(), "entry(3, 1, 1, 0, #)", 0, 99).answers(0, 0).refusals(-4, -6);
    }

    private static void settings() {
        Sentence.ofPromise("set", "SPARE (what 0), FADE (1): what it was. -2; -4; -6.");
        argument(Books.empty(), "set(#, 5)", 0, 1).answers(5, 1).refusals(-2, -2);
        Sentence.ofTerms("SPARE (0 .. 50; 5 at first)");
        argument(Books.empty(), "set(0, #)", 0, 50).answers(5, 5).refusals(-4, -6);
        Sentence.ofTerms("FADE (0 .. 9; 1 at first)");
        argument(Books.empty(), "set(1, #)", 0, 9).answers(1, 1).refusals(-4, -6);
    }

    private static void entryNumbers() {
        Sentence.ofPromise("bar", "-1 (also if a and b are one)");
        fourNumbers("bar", 1);
        Sentence.ofPromise("like", "-1 (also if a and b are one)");
        fourNumbers("like", 17);
    }

    private static void fourNumbers(String name, int answer) {
        Run ten = Books.alike(10);
        argument(ten, name + "(#, 0, 1, 0)", 0, 3).answers(answer, answer).refusals(-1, -1);
        argument(ten, name + "(1, 0, #, 0)", 0, 3).answers(answer, answer).refusals(-1, -1);
        argument(ten, name + "(0, #, 1, 0)", 0, 9).answers(answer, answer).refusals(-1, -1);
        argument(ten, name + "(0, 0, 1, #)", 0, 9).answers(answer, answer).refusals(-1, -1);
        // With three entries the fourth is none, though there would be room for it.
        Run three = Books.alike(3);
        argument(three, name + "(3, #, 1, 0)", 0, 2).answers(answer, answer).refusals(-1, -1);
        argument(three, name + "(3, 0, 1, #)", 0, 2).answers(answer, answer).refusals(-1, -1);
        for (int c = 0; c < 4; c++) {
            three.refused(name + "(" + c + ", 0, " + c + ", 1)", -1);
            three.refused(name + "(" + c + ", 0, " + c + ", 0)", -1);
            Books.empty().refused(name + "(" + c + ", 0, " + (c + 1) % 4 + ", 0)", -1);
        }
        Books.empty().tell("entry(0, 1, 1, 0, 0)").refused(name + "(0, 0, 1, 0)", -1);
        Books.empty().tell("entry(1, 1, 1, 0, 0)").refused(name + "(0, 0, 1, 0)", -1);
    }

    private static void joinings() {
        Run three = Books.alike(3);
        Sentence.ofPromise("join", "-1 (also if they are one)");
        twoCatalogues(three, "join(#, 1)", "join(1, #)", 51);
        Sentence.ofPromise("bests", "BESTS of a and b (1000000 at most). -1.");
        twoCatalogues(three, "bests(#, 1)", "bests(1, #)", 6);
        Sentence.ofPromise("joined", "-9 none. -1.");
        twoCatalogues(three, "joined(#, 0, 1)", "joined(1, 0, #)", 0);
        argument(three, "joined(3, #, 2)", 0, 2).answers(0, 2).refusals(-1, -1);
        argument(Books.alike(10), "joined(3, #, 2)", 0, 9).answers(0, 9).refusals(-1, -1);
        Books.empty().refused("joined(0, 0, 1)", -1);
        Sentence.ofPromise("sure", "1, 0. -1.");
        Run one = Books.alike(1);
        twoCatalogues(one, "sure(#, 0, 1)", "sure(1, 0, #)", 1);
        argument(three, "sure(3, #, 2)", 0, 2).answers(0, 0).refusals(-1, -1);
        argument(Books.alike(10), "sure(3, #, 2)", 0, 9).answers(0, 0).refusals(-1, -1);
        Books.empty().refused("sure(0, 0, 1)", -1);
    }

    private static void twoCatalogues(Run before, String first, String second, int answer) {
        argument(before, first, 0, 3).answers(answer, answer).refusals(-1, -1);
        argument(before, second, 0, 3).answers(answer, answer).refusals(-1, -1);
        before.refused(first.replace("#", "1"), -1);
    }

    private static void ways() {
        Sentence.ofPromise("chain", "-1 (way is none such, or a CATALOGUE is twice in it, too); -2.");
        Run ten = Books.alike(10);
        argument(ten, "chain(#, 0, 2, 0)", 0, 3).answers(0, 0).refusals(-1, -1);
        argument(ten, "chain(0, #, 2, 0)", 0, 9).answers(0, 9).refusals(-1, -1);
        argument(Books.alike(3), "chain(0, #, 2, 0)", 0, 2).answers(0, 2).refusals(-1, -1);
        argument(ten, "chain(0, 0, 2, #)", 0, 2).answers(0, 83 + 50).refusals(-2, -2);
        Books.empty().refused("chain(0, 0, 2, 0)", -1);

        Sentence.ofPromise("chain", "(1 to 3 of them, the highest first, 1 .. 4 for CATALOGUES 0 .. 3)");
        for (int a = 0; a < 4; a++) {
            TreeSet<Integer> good = goodWays(a);
            Run run = Books.alike(1);
            for (int way = -300; way <= 4500; way++) {
                run = way % 400 == 0 ? Books.alike(1) : run;
                run.due("chain(" + a + ", 0, " + way + ", 0)", good.contains(way) ? 0 : -1);
            }
            run = Books.alike(1);
            for (int way : new int[] {11112, 22222, 43210, 1000002, Integer.MIN_VALUE, Integer.MAX_VALUE, -234}) {
                run.refused("chain(" + a + ", 0, " + way + ", 0)", -1);
            }
        }
    }

    private static TreeSet<Integer> goodWays(int a) {
        TreeSet<Integer> good = new TreeSet<>();
        for (int b = 1; b <= 4; b++) {
            for (int c = 1; c <= 4; c++) {
                for (int d = 1; d <= 4; d++) {
                    boolean two = b != a + 1 && c != a + 1 && b != c;
                    if (b != a + 1) {
                        good.add(b);
                    }
                    if (two) {
                        good.add(b * 10 + c);
                    }
                    if (two && d != a + 1 && d != b && d != c) {
                        good.add(b * 100 + c * 10 + d);
                    }
                }
            }
        }
        return good;
    }

    private static void copies() {
        Sentence.ofPromise("copied", "-9 none. -1; -3 b is not later by YEARS.");
        Run fromMiddle = Books.alike(3).tell("year(0, 1501)", "year(2, 1501)", "year(3, 1501)");
        argument(fromMiddle, "copied(1, #, 0)", 0, 3).answers(1, 1).refusals(-1, -1);
        argument(fromMiddle, "copied(1, 3, #)", 0, 2).answers(1, 0).refusals(-1, -1);
        Run toMiddle = Books.alike(10).tell("year(1, 1501)");
        argument(toMiddle, "copied(#, 1, 0)", 0, 3).answers(1, 1).refusals(-1, -1);
        argument(toMiddle, "copied(0, 1, #)", 0, 9).answers(1, 0).refusals(-1, -1);
    }

    private static void sights() {
        Sentence.ofPromise("sight", "A SIGHT: its number. -1; -4; -6");
        argument(Books.empty(), "sight(#, 0, 0, 0)", 0, 11).answers(0, 0).refusals(-1, -1);
        argument(Books.empty(), "sight(0, #, 0, 0)", 0, 7).answers(0, 0).refusals(-1, -1);
        argument(Books.empty(), "sight(0, 0, #, 0)", 0, 80000).answers(0, 0).refusals(-4, -6);
        argument(Books.empty(), "sight(0, 0, 0, #)", 0, 80000).answers(0, 0).refusals(-4, -6);
    }

    private static void moves() {
        Sentence.ofPromise("move", "A MOVE: its number. -1; -2 SORT; -4; -6");
        for (int sort = 0; sort <= 4; sort++) {
            argument(Books.empty(), "move(#, 0, 0, " + sort + ", 0)", 0, 11).answers(0, 0).refusals(-1, -1);
            argument(Books.empty(), "move(0, #, 0, " + sort + ", 0)", 0, 7).answers(0, 0).refusals(-1, -1);
            argument(Books.empty(), "move(0, 0, #, " + sort + ", 0)", 0, 80000).answers(0, 0).refusals(-4, -6);
            argument(Books.empty(), "move(0, 0, 0, " + sort + ", #)", 0, 80000).answers(0, 0).refusals(-4, -6);
        }
        argument(Books.empty(), "move(0, 0, 0, #, 0)", 0, 4).answers(0, 0).refusals(-2, -2);
    }

    private static void withdrawals() {
        Sentence.ofPromise("withdraw", "is WITHDRAWN at a KNOWN day: 1. -1; -3 it was; -4 ahead of its own; -6.");
        Run full = Books.full();
        Run few = Books.empty().tell("sight(0, 0, 9, 0)", "sight(0, 0, 9, 7)", "sight(0, 0, 9, 80000)",
                "move(0, 0, 9, 0, 0)", "move(0, 0, 9, 0, 7)", "move(0, 0, 9, 0, 80000)");
        for (boolean sight : new boolean[] {true, false}) {
            String head = "withdraw(" + sight + ", ";
            argument(full, head + "#, 6)", 0, 59).answers(1, 1).refusals(-1, -1);
            argument(few, head + "#, 80000)", 0, 2).answers(1, 1).refusals(-1, -1);
            argument(few, head + "0, #)", 0, 80000).answers(1, 1).refusals(-4, -6);
            argument(few, head + "1, #)", 7, 80000).answers(1, 1).refusals(-4, -6);
            argument(few, head + "2, #)", 80000, 80000).answers(1, 1).refusals(-4, -6);
            Books.empty().refused(head + "0, 0)", -1);
        }
        // A book of the one kind alone has none of the other kind.
        Books.empty().tell("sight(0, 0, 0, 0)").refused("withdraw(false, 0, 0)", -1);
        Books.empty().tell("move(0, 0, 0, 0, 0)").refused("withdraw(true, 0, 0)", -1);
    }

    private static void recordQuestions() {
        Run run = Books.empty().tell("sight(0, 4, 80000, 0)", "sight(0, 5, 0, 80000)", "sight(11, 6, 0, 0)",
                "move(0, 4, 80000, 0, 0)", "move(0, 5, 0, 0, 80000)", "move(11, 6, 0, 0, 0)");
        Sentence.ofPromise("where", "the one of the greatest number. -1; -4; -6.");
        argument(run, "where(#, 80000, 80000)", 0, 11).answers(4, 6).refusals(-1, -1);
        argument(run, "where(0, #, 0)", 0, 80000).answers(-9, 4).refusals(-4, -6);
        argument(run, "where(0, 79999, #)", 0, 80000).answers(-9, 5).refusals(-4, -6);

        Sentence.ofPromise("quarrels", "as of KNOWN. -1; -4; -6.");
        Run quarrel = Books.empty().tell("sight(0, 1, 5, 0)", "sight(0, 2, 5, 80000)", "sight(11, 1, 0, 0)",
                "sight(11, 2, 0, 80000)");
        argument(quarrel, "quarrels(#, 80000)", 0, 11).answers(1, 1).refusals(-1, -1);
        argument(quarrel, "quarrels(0, #)", 0, 80000).answers(0, 1).refusals(-4, -6);

        Sentence.ofPromise("holds", "-9 nobody. -1; -2; -4; -6.");
        argument(run, "holds(#, 80000, 80000, 0)", 0, 11).answers(4, 6).refusals(-1, -1);
        argument(run, "holds(0, 80000, 80000, #)", 0, 2).answers(4, 0).refusals(-2, -2);
        for (int what = 0; what <= 1; what++) {
            argument(run, "holds(0, #, 0, " + what + ")", 0, 80000).answers(-9, 4).refusals(-4, -6);
            argument(run, "holds(0, 0, #, " + what + ")", 0, 80000).answers(-9, 5).refusals(-4, -6);
        }
        argument(run, "holds(0, #, 0, 2)", 0, 80000).answers(0, 0).refusals(-4, -6);
        argument(run, "holds(0, 0, #, 2)", 0, 80000).answers(0, 0).refusals(-4, -6);

        Sentence.ofPromise("since", "and on all days between these. -1; -4; -6.");
        argument(run, "since(#, 0, 80000)", 0, 11).answers(80000, 0).refusals(-1, -1);
        argument(run, "since(0, #, 80000)", 0, 80000).answers(80000, 0).refusals(-4, -6);
        argument(run, "since(0, 0, #)", 0, 80000).answers(0, 80000).refusals(-4, -6);
    }

    private static void visitors() {
        Sentence.ofPromise("visitor", "A VISITOR's WORD: its number. -2; -1 (x and y are one, too, of SORTS 0, 1)");
        argument(Books.empty(), "visitor(#, 0, 1, 1)", 0, 3).answers(0, 0).refusals(-2, -2);
        for (int sort = 0; sort <= 3; sort++) {
            String head = "visitor(" + sort + ", ";
            argument(Books.empty(), head + "#, 5, 1)", 0, 11).answers(0, 0).refusals(-1, -1);
            argument(Books.empty(), head + "0, 5, #)", 1, 9).answers(0, 0).refusals(-4, -6);
        }
        for (int sort = 0; sort <= 1; sort++) {
            argument(Books.empty(), "visitor(" + sort + ", 5, #, 1)", 0, 11).answers(0, 0).refusals(-1, -1);
            for (int thing = 0; thing < 12; thing++) {
                Books.empty().refused("visitor(" + sort + ", " + thing + ", " + thing + ", 1)", -1);
            }
        }

        Sentence.ofTerms("at the left end (2), at the right end (3; y counts nothing)");
        for (int y : new int[] {5, -1, 12, Integer.MIN_VALUE, Integer.MAX_VALUE}) {
            for (int sort = 2; sort <= 3; sort++) {
                Books.empty().due("visitor(" + sort + ", 5, " + y + ", 9)", 0).due("shelf(32)", 9).due("shelf(64)", 0);
            }
        }
    }

    private static void shelves() {
        for (String call : new String[] {"shelf(#)", "row(#, 0)", "quarrel(#)"}) {
            String name = Run.nameOf(call);
            Sentence.ofPromise(name, name.equals("shelf") ? "-1 none, or others; -6 more than 8." : "Refused as shelf().");
            Run run = Books.empty();
            for (int set = 0; set <= 4096; set++) {
                run = set % 400 == 0 ? Books.empty() : run;
                int lowest = name.equals("row") ? Integer.numberOfTrailingZeros(set) : 0;
                int many = Integer.bitCount(set) > 8 ? -6 : lowest;
                run.due(call.replace("#", String.valueOf(set)), set == 0 || set == 4096 ? -1 : many);
            }
            for (int set : new int[] {511, 4088, 4095}) {
                Books.empty().refused(call.replace("#", String.valueOf(set)), -6);
            }
            Books.empty().refused(call.replace("#", "0"), -1);
            for (int bit = 12; bit < 32; bit++) {
                Books.empty().refused(call.replace("#", String.valueOf(1 << bit)), -1);
                Books.empty().refused(call.replace("#", String.valueOf(1 << bit | 3)), -1);
            }
            Books.empty().refused(call.replace("#", "-1"), -1);
        }
    }

    private static void places() {
        Sentence.ofPromise("row", "The THING at place k, from the left, of the BEST ROW; -9 there is none.");
        for (int size = 1; size <= 8; size++) {
            String head = "row(" + ((1 << size) - 1 << 4) + ", ";
            Run run = Books.empty();
            for (int k = 0; k < size; k++) {
                run.due(head + k + ")", 4 + k);
            }
            for (int k : new int[] {-1, size, size + 1, 8, 9, 256, Integer.MIN_VALUE, Integer.MAX_VALUE}) {
                run.due(head + k + ")", -9);
            }
            run.due("count(11)", 0).due("count(16)", 0);
        }
    }

    private static void beasts() {
        Sentence.ofPromise("part", "KIND of a PART: what it was. -1; -4; -6.");
        argument(Books.empty(), "part(#, 1)", 0, 9).answers(0, 0).refusals(-1, -1);
        argument(Books.empty(), "part(4, #)", 0, 5).answers(0, 0).refusals(-4, -6);

        Sentence.ofPromise("clash", "-4, -6 no such KIND; -3 they are one.");
        for (boolean on : new boolean[] {true, false}) {
            int answer = on ? 1 : 0;
            argument(Books.empty(), "clash(#, 3, " + on + ")", 0, 5).answers(answer, answer).refusals(-4, -6);
            argument(Books.empty(), "clash(3, #, " + on + ")", 0, 5).answers(answer, answer).refusals(-4, -6);
            for (int kind = 0; kind < 6; kind++) {
                Books.empty().refused("clash(" + kind + ", " + kind + ", " + on + ")", -3);
            }
        }

        Sentence.ofPromise("fake", "Whether a BEAST is A FAKE: 1, 0. -1 other bits.");
        Run run = Books.empty().tell("part(9, 1)", "clash(0, 1, true)");
        argument(run, "fake(#)", 0, 1023).answers(0, 1).refusals(-1, -1);
        Sentence.ofPromise("least", "LEAST FAKE: the set (0: it is none). -1.");
        argument(run, "least(#)", 0, 1023).answers(0, 512).refusals(-1, -1);
    }

    private static void counts() {
        Sentence.ofPromise("count", "-9 for another what.");
        Run run = Books.empty();
        for (int what = -40; what <= 80; what++) {
            boolean counted = what >= 0 && what <= 16 && what != 10;
            run.due("count(" + what + ")", counted ? 0 : -9);
        }
        for (int what : new int[] {Integer.MIN_VALUE, Integer.MAX_VALUE, 256, 65536, 1 << 30, -(1 << 30)}) {
            run.due("count(" + what + ")", -9);
        }
        for (int what = 11; what <= 16; what++) {
            run.due("count(" + what + ")", 0);
        }
    }
}
