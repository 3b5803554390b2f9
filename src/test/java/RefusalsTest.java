import java.util.List;
import java.util.TreeSet;

/** The order of the refusals where two fit, that nothing else changes, and how many of each there were. */
public final class RefusalsTest {
    private static final String ORDER =
            "the call answers the number, the first that fits in the order in which it tells them";
    /** Pairs of refusals that can't fit at once: of one number that is both too small and too great, or the like. */
    private static final TreeSet<String> NEVER_BOTH = new TreeSet<>(List.of(
            "year -4 -6", "set -4 -6", "quarrels -4 -6", "part -4 -6", "withdraw -1 -3", "withdraw -4 -6"));
    private static final TreeSet<String> BOTH = new TreeSet<>();

    public static void main(String[] args) {
        orderOfCatalogues();
        orderOfRecords();
        orderOfShelvesAndBeasts();
        eachPairWasAsked();
        eachRefusalWasAsked();
        counted();
        noneOfFive();
        noneIsNoRefusal();
        nothingElseChanges();
        fullBookStays();
        lastCall();
        Sentence.end();
    }

    /** A call that two refusals fit, told in the promise's order. */
    private static void both(Run before, String call, int first, int second) {
        BOTH.add(Run.nameOf(call) + " " + first + " " + second);
        before.refused(call, first);
    }

    private static void orderOfCatalogues() {
        Sentence.ofTerms(ORDER);
        Run none = Books.empty();
        both(none, "means(-1, 5)", -1, -4);
        both(none, "means(5, 20)", -1, -4);
        both(none, "year(4, 1499)", -1, -4);
        both(none, "year(-1, 1901)", -1, -6);
        Run full = Books.alike(10);
        both(none, "entry(4, 0, 1, 0, 0)", -1, -4);
        both(none, "entry(4, 1, 0, 0, 0)", -1, -4);
        both(none, "entry(0, 1048576, 1, -1, 0)", -1, -4);
        both(none, "entry(-1, 1, 1, 0, 100)", -1, -6);
        both(full, "entry(0, -1, 1, 0, 0)", -1, -6);
        both(none, "entry(0, 0, 201, 0, 0)", -4, -6);
        both(none, "entry(0, 0, 1, 10, 0)", -4, -6);
        both(none, "entry(0, 1, 0, 10, 0)", -4, -6);
        both(none, "entry(0, 1, 201, -1, 0)", -4, -6);
        both(none, "entry(0, 1, 1, 10, -1)", -4, -6);
        both(full, "entry(0, 0, 1, 0, 0)", -4, -6);
        both(full, "entry(0, 1, 0, 0, 0)", -4, -6);
        both(full, "entry(0, 1, 1, -1, 0)", -4, -6);
        both(full, "entry(0, 1, 1, 0, -1)", -4, -6);
        both(none, "set(2, -1)", -2, -4);
        both(none, "set(-1, 51)", -2, -6);
        Run barred = Books.barred();
        both(barred, "bar(0, 10, 1, 0)", -1, -6);
        both(barred, "bar(0, 0, 1, 10)", -1, -6);
        both(barred, "bar(0, 0, 0, 1)", -1, -6);
        both(full, "chain(0, 0, 22, 3)", -1, -2);
        both(full, "chain(0, 10, 2, -1)", -1, -2);
        both(full, "chain(4, 0, 2, 3)", -1, -2);
        both(full, "copied(0, 1, 10)", -1, -3);
        both(full, "copied(0, 0, -1)", -1, -3);
    }

    private static void orderOfRecords() {
        Sentence.ofTerms(ORDER);
        Run none = Books.empty();
        Run full = Books.full();
        both(none, "sight(12, 0, -1, 0)", -1, -4);
        both(none, "sight(0, 8, 0, -1)", -1, -4);
        both(none, "sight(-1, 0, 80001, 0)", -1, -6);
        both(full, "sight(0, -1, 0, 0)", -1, -6);
        both(none, "sight(0, 0, -1, 80001)", -4, -6);
        both(none, "sight(0, 0, 80001, -1)", -4, -6);
        both(full, "sight(0, 0, -1, 0)", -4, -6);
        both(full, "sight(0, 0, 0, -1)", -4, -6);
        both(none, "move(12, 0, 0, 5, 0)", -1, -2);
        both(none, "move(0, 8, 0, -1, 0)", -1, -2);
        both(none, "move(0, -1, -1, 0, 0)", -1, -4);
        both(full, "move(-1, 0, 0, 0, 0)", -1, -6);
        both(none, "move(0, 0, -1, 5, 0)", -2, -4);
        both(none, "move(0, 0, 0, -1, -1)", -2, -4);
        both(none, "move(0, 0, 80001, 5, 0)", -2, -6);
        both(full, "move(0, 0, 0, 5, 0)", -2, -6);
        both(none, "move(0, 0, -1, 0, 80001)", -4, -6);
        both(none, "move(0, 0, 80001, 0, -1)", -4, -6);
        both(full, "move(0, 0, -1, 0, 0)", -4, -6);
        both(full, "move(0, 0, 0, 0, -1)", -4, -6);
        for (boolean sight : new boolean[] {true, false}) {
            String head = "withdraw(" + sight + ", ";
            Run gone = full.again().tell(head + "3, 6)");
            both(gone, head + "60, -1)", -1, -4);
            both(gone, head + "-1, 80001)", -1, -6);
            both(gone, head + "3, 4)", -3, -4);
            both(gone, head + "3, -1)", -3, -4);
            both(gone, head + "3, 80001)", -3, -6);
            gone.refused(head + "3, 6)", -3).refused(head + "3, 80000)", -3);
        }
        both(none, "where(12, -1, 0)", -1, -4);
        both(none, "where(-1, 0, 80001)", -1, -6);
        both(none, "where(0, -1, 80001)", -4, -6);
        both(none, "where(0, 80001, -1)", -4, -6);
        both(none, "quarrels(12, -1)", -1, -4);
        both(none, "quarrels(-1, 80001)", -1, -6);
        both(none, "holds(12, 0, 0, 3)", -1, -2);
        both(none, "holds(-1, -1, 0, 0)", -1, -4);
        both(none, "holds(12, 0, 80001, 0)", -1, -6);
        both(none, "holds(0, 0, -1, -1)", -2, -4);
        both(none, "holds(0, 80001, 0, 3)", -2, -6);
        both(none, "holds(0, -1, 80001, 2)", -4, -6);
        both(none, "holds(0, 80001, -1, 1)", -4, -6);
        both(none, "since(12, 0, -1)", -1, -4);
        both(none, "since(-1, 80001, 0)", -1, -6);
        both(none, "since(0, -1, 80001)", -4, -6);
        both(none, "since(0, 80001, -1)", -4, -6);
    }

    private static void orderOfShelvesAndBeasts() {
        Sentence.ofTerms(ORDER);
        Run none = Books.empty();
        Run full = Books.full();
        both(none, "visitor(4, 12, 0, 1)", -2, -1);
        both(none, "visitor(-1, 1, 1, 1)", -2, -1);
        both(none, "visitor(4, 0, 1, 0)", -2, -4);
        both(none, "visitor(4, 0, 1, 10)", -2, -6);
        both(full, "visitor(-1, 0, 1, 1)", -2, -6);
        both(none, "visitor(0, 1, 1, 0)", -1, -4);
        both(none, "visitor(2, 12, 0, 0)", -1, -4);
        both(none, "visitor(1, 0, 12, 10)", -1, -6);
        both(full, "visitor(3, -1, 0, 1)", -1, -6);
        both(full, "visitor(0, 0, 1, 0)", -4, -6);
        for (String call : new String[] {"shelf(#)", "row(#, 0)", "quarrel(#)"}) {
            both(none, call.replace("#", "8191"), -1, -6);
            both(none, call.replace("#", "-1"), -1, -6);
        }
        // Of a shelf that is refused no place is looked at.
        none.refused("row(511, 99)", -6).refused("row(0, -1)", -1);
        both(none, "part(10, -1)", -1, -4);
        both(none, "part(-1, 6)", -1, -6);
        both(none, "clash(-1, 6, true)", -4, -6);
        both(none, "clash(6, -1, true)", -4, -6);
        both(none, "clash(-1, -1, false)", -4, -3);
        both(none, "clash(6, 6, true)", -6, -3);
    }

    private static void eachPairWasAsked() {
        for (String call : Sentence.document().calls()) {
            List<Integer> known = Sentence.document().refusalsOf(call);
            for (int n = 0; n < known.size(); n++) {
                for (int later : known.subList(n + 1, known.size())) {
                    String pair = call + " " + known.get(n) + " " + later;
                    if (BOTH.contains(pair) == NEVER_BOTH.contains(pair)) {
                        Sentence.fault("two that fit at once: " + pair + " was not asked, or can't be");
                    }
                }
            }
        }
    }

    /** Each call has each refusal that its promise tells, and the test knows of no other one. */
    private static void eachRefusalWasAsked() {
        Run.SEEN.clear();
        refuseEach(Books.full());
        TreeSet<String> told = new TreeSet<>();
        for (String call : Sentence.document().calls()) {
            for (int number : Sentence.document().refusalsOf(call)) {
                told.add(call + " " + number);
            }
        }
        if (!told.equals(Run.SEEN)) {
            Sentence.fault("the document tells " + told + ", asked were " + Run.SEEN);
        }
    }

    /** Every refusal of every call, on a book in which there is no room for more. */
    private static void refuseEach(Run full) {
        full.refused("means(20, 0)", -1).refused("means(3, 4)", -4).refused("sense(20)", -1);
        full.refused("year(4, 1500)", -1).refused("year(0, 1499)", -4).refused("year(0, 1901)", -6);
        full.refused("entry(4, 1, 1, 0, 0)", -1).refused("entry(0, 0, 1, 0, 0)", -4).refused("entry(0, 1, 1, 0, 0)", -6);
        full.refused("set(2, 0)", -2).refused("set(0, -1)", -4).refused("set(1, 10)", -6);
        full.refused("bar(0, 0, 0, 0)", -1).refused("bar(0, 0, 1, 0)", -6).refused("like(0, 0, 0, 0)", -1);
        full.refused("join(0, 0)", -1).refused("joined(0, 10, 1)", -1).refused("bests(4, 0)", -1);
        full.refused("sure(0, -1, 1)", -1).refused("chain(0, 0, 1, 0)", -1).refused("chain(0, 0, 2, 3)", -2);
        full.refused("copied(4, 0, 0)", -1).refused("copied(0, 1, 0)", -3);
        full.refused("sight(12, 0, 0, 0)", -1).refused("sight(0, 0, -1, 0)", -4).refused("sight(0, 0, 0, 0)", -6);
        full.refused("move(0, 8, 0, 0, 0)", -1).refused("move(0, 0, 0, 5, 0)", -2);
        full.refused("move(0, 0, 0, 0, -1)", -4).refused("move(0, 0, 0, 0, 0)", -6);
        full.refused("withdraw(true, 60, 5)", -1).refused("withdraw(true, 0, 4)", -4);
        full.refused("withdraw(false, 0, 80001)", -6);
        full.again().tell("withdraw(false, 0, 5)").refused("withdraw(false, 0, 5)", -3);
        full.refused("where(12, 0, 0)", -1).refused("where(0, -1, 0)", -4).refused("where(0, 0, 80001)", -6);
        full.refused("quarrels(12, 0)", -1).refused("quarrels(0, -1)", -4).refused("quarrels(0, 80001)", -6);
        full.refused("holds(12, 0, 0, 0)", -1).refused("holds(0, 0, 0, 3)", -2);
        full.refused("holds(0, 0, -1, 0)", -4).refused("holds(0, 80001, 0, 0)", -6);
        full.refused("since(12, 0, 0)", -1).refused("since(0, 0, -1)", -4).refused("since(0, 80001, 0)", -6);
        full.refused("visitor(4, 0, 1, 1)", -2).refused("visitor(0, 0, 0, 1)", -1);
        full.refused("visitor(0, 0, 1, 0)", -4).refused("visitor(0, 0, 1, 1)", -6);
        full.refused("shelf(0)", -1).refused("shelf(511)", -6).refused("row(0, 0)", -1).refused("row(511, 0)", -6);
        full.refused("quarrel(0)", -1).refused("quarrel(511)", -6);
        full.refused("part(10, 0)", -1).refused("part(0, -1)", -4).refused("part(0, 6)", -6);
        full.refused("clash(-1, 0, true)", -4).refused("clash(0, 6, true)", -6).refused("clash(0, 0, true)", -3);
        full.refused("fake(1024)", -1).refused("least(1024)", -1);
    }

    private static void counted() {
        Sentence.ofPromise("count", "11 .. 16 REFUSALS -1 .. -6");
        Run run = Books.empty();
        String[] calls = {"sense(20)", "set(2, 0)", "clash(0, 0, true)", "set(0, -1)", "", "set(0, 51)"};
        for (int number = 1; number <= 6; number++) {
            for (int n = 0; n < 10 * number && number != 5; n++) {
                run.due(calls[number - 1], -number);
                run.due("count(" + (10 + number) + ")", n + 1);
            }
        }
        run.due("count(11)", 10).due("count(12)", 20).due("count(13)", 30).due("count(14)", 40);
        run.due("count(15)", 0).due("count(16)", 60);
    }

    private static void noneOfFive() {
        Sentence.ofTerms("-1 NOBODY: no such WORD, CATALOGUE, ENTRY, THING, PLACE, PERSON, PART, record. "
                + "-2 OTHER: what, SORT. -3 STATE: it is not as it must be. -4 BELOW: a number below the least. "
                + "-6 ROOM: a number above the greatest, no room.");
        Run run = Books.full();
        for (String call : new String[] {"sense(20)", "set(2, 0)", "copied(0, 1, 0)", "set(0, -1)", "set(0, 51)",
                "entry(0, 1, 1, 0, 0)", "bar(0, 0, 1, 0)", "sight(0, 0, 0, 0)", "move(0, 0, 0, 0, 0)",
                "visitor(0, 0, 1, 1)", "shelf(511)", "part(0, 6)", "clash(0, 0, true)"}) {
            run.answer(call);
            run.due("count(15)", 0);
        }
        run.due("count(11)", 1).due("count(12)", 1).due("count(13)", 2).due("count(14)", 1).due("count(16)", 8);
    }

    private static void noneIsNoRefusal() {
        Sentence.ofTerms("nothing changes but how many there were");
        Run run = Books.alike(1).tell("year(1, 1501)", "bar(0, 0, 1, 0)", "set(0, 0)");
        run.due("joined(0, 0, 1)", -9).due("chain(0, 0, 2, 0)", -9).due("where(0, 0, 0)", -9);
        run.due("holds(0, 0, 0, 0)", -9).due("holds(0, 0, 0, 1)", -9).due("row(1, 1)", -9).due("row(1, -1)", -9);
        run.due("count(10)", -9).due("count(17)", -9).due("count(-1)", -9);
        run.due("copied(0, 1, 0)", 0).due("copied(2, 1, 0)", -9);
        for (int what = 11; what <= 16; what++) {
            run.due("count(" + what + ")", 0);
        }
    }

    /** What stands at the last told values must not be lost to a call that is refused. */
    private static void nothingElseChanges() {
        Sentence.ofTerms("nothing changes but how many there were");
        Run run = Books.alike(2).tell("means(19, 7)", "means(7, 2)", "year(0, 1700)", "year(1, 1650)",
                "set(0, 17)", "set(1, 4)", "bar(0, 1, 1, 0)", "sight(0, 1, 5, 5)", "sight(0, 2, 5, 6)",
                "move(0, 1, 5, 0, 5)", "move(0, 2, 6, 3, 6)", "withdraw(true, 1, 9)", "withdraw(false, 1, 9)",
                "visitor(0, 1, 2, 5)", "visitor(2, 2, 0, 4)", "part(3, 2)", "clash(2, 0, true)");
        run.refused("means(19, 20)", -1).refused("means(7, 8)", -4);
        run.refused("year(0, 1901)", -6).refused("year(1, 1499)", -4);
        run.refused("entry(0, 2, 201, 0, 0)", -6).refused("entry(1, 2, 0, 0, 0)", -4);
        run.refused("set(0, 51)", -6).refused("set(1, -1)", -4).refused("set(1, 10)", -6).refused("set(2, 3)", -2);
        run.refused("bar(0, 0, 1, 2)", -1).refused("bar(0, 0, 0, 1)", -1);
        run.refused("sight(0, 3, 80001, 5)", -6).refused("sight(0, 3, 7, -1)", -4).refused("sight(0, 8, 7, 7)", -1);
        run.refused("move(0, 3, 80001, 0, 5)", -6).refused("move(0, 3, 7, 5, 7)", -2).refused("move(0, 8, 7, 4, 7)", -1);
        run.refused("withdraw(true, 0, 4)", -4).refused("withdraw(true, 0, 80001)", -6);
        run.refused("withdraw(true, 1, 7)", -3).refused("withdraw(false, 1, 20)", -3);
        run.refused("visitor(0, 2, 1, 10)", -6).refused("visitor(4, 2, 1, 9)", -2).refused("visitor(0, 2, 2, 9)", -1);
        run.refused("part(3, 6)", -6).refused("part(3, -1)", -4).refused("part(10, 4)", -1);
        run.refused("clash(2, 2, false)", -3).refused("clash(2, 6, true)", -6).refused("clash(-1, 2, true)", -4);
        // A day of withdrawing that is refused leaves the one that was told.
        run.due("withdraw(true, 1, 7)", -3).due("quarrels(0, 8)", 1).due("quarrels(0, 9)", 0);
        run.due("withdraw(false, 1, 20)", -3).due("holds(0, 9, 8, 0)", 2).due("holds(0, 9, 9, 0)", 1);
        run.due("withdraw(true, 0, 4)", -4).due("withdraw(true, 0, 5)", 1);
    }

    /** The book's last rows are as full as they may be: one more of each, and all still answers as before. */
    private static void fullBookStays() {
        Sentence.ofTerms("-6 ROOM: a number above the greatest, no room");
        Run run = Books.full();
        for (int c = 0; c < 4; c++) {
            run.refused("entry(" + c + ", 2, 20, 1, 6)", -6);
        }
        run.refused("bar(0, 0, 1, 0)", -6).refused("bar(1, 9, 3, 9)", -6);
        run.refused("sight(0, 7, 0, 0)", -6).refused("sight(1, 7, 80000, 0)", -6);
        run.refused("move(0, 7, 0, 0, 0)", -6).refused("move(1, 7, 80000, 2, 0)", -6);
        run.refused("visitor(0, 2, 1, 9)", -6).refused("visitor(2, 2, 0, 9)", -6);
        run.due("where(1, 80000, 80000)", 2).due("holds(1, 80000, 80000, 0)", 3).due("shelf(6)", 360);
    }

    private static void lastCall() {
        Sentence.ofTerms("An object is used for at most 512 calls after it has been made");
        Run refusals = Books.empty();
        for (int n = 1; n < 512; n++) {
            refusals.due("sense(-1)", -1);
        }
        refusals.due("count(11)", 511);
        Run tellings = Books.empty();
        for (int n = 1; n < 512; n++) {
            tellings.due("year(0, " + (1500 + n % 400) + ")", n == 1 ? 1500 : 1500 + (n - 1) % 400);
        }
        tellings.due("year(0, 1900)", 1500 + 511 % 400);
        Run joins = Books.alike(10);
        for (int n = 0; n < 235; n++) {
            joins.tell("set(0, " + n % 51 + ")").due("join(0, 1)", 170);
        }
        joins.due("bests(0, 1)", 1000000).due("joined(0, 9, 1)", 9);
    }
}
