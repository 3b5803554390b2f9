/** Part II of the terms and promises 15 to 21: each sentence that names a boundary case, with a test of its own. */
public final class RecordSentencesTest {
    public static void main(String[] args) {
        thingsPlacesPeople();
        sixtySights();
        sixtyMoves();
        firstAndLastDays();
        knownOnADayOfItsOwn();
        withdrawnNotAheadOfItsOwn();
        countsTillAheadOfThat();
        withdrawnOnce();
        latestDayNotBehind();
        greatestNumberOfOneDay();
        quarrelOfOneDay();
        quarrelDays();
        movesNotBehind();
        byDaysThenByNumbers();
        lentAndBack();
        nobodyHadIt();
        nothingIsLent();
        whoIsNamed();
        nothingIsLentAnyMore();
        lentToTheLast();
        owner();
        stolen();
        firstKnownDay();
        allDaysBetween();
        Sentence.end();
    }

    private static void thingsPlacesPeople() {
        Sentence.ofTerms("THINGS 0 .. 11, PLACES 0 .. 7, PEOPLE 0 .. 7");
        for (int thing = 0; thing < 12; thing++) {
            int other = thing % 8;
            Run run = Books.empty().due("sight(" + thing + ", " + other + ", 3, 3)", 0);
            run.due("move(" + thing + ", " + other + ", 3, 0, 3)", 0);
            for (int asked = 0; asked < 12; asked++) {
                int want = asked == thing ? other : -9;
                run.due("where(" + asked + ", 3, 3)", want).due("holds(" + asked + ", 3, 3, 0)", want);
            }
        }
        Run run = Books.empty();
        run.refused("sight(12, 0, 0, 0)", -1).refused("sight(0, 8, 0, 0)", -1).refused("move(12, 0, 0, 0, 0)", -1);
        run.refused("move(0, 8, 0, 0, 0)", -1).refused("sight(0, -1, 0, 0)", -1).refused("move(0, -1, 0, 0, 0)", -1);
    }

    private static void sixtySights() {
        Sentence.ofTerms("SIGHTS have numbers from 0 on (60 at most)");
        Run run = Books.empty();
        for (int n = 0; n < 60; n++) {
            run.due("count(4)", n).due("sight(0, " + n % 8 + ", 7, 7)", n);
        }
        run.refused("sight(0, 0, 7, 7)", -6).refused("sight(11, 7, 80000, 80000)", -6).due("count(4)", 60);
        run.due("where(0, 7, 7)", 59 % 8).due("quarrels(0, 7)", 1);
        run.due("move(0, 0, 0, 0, 0)", 0).due("count(5)", 1);
        Sentence.ofPromise("sight", "-6 (60, too)");
        // What is withdrawn keeps its number, and its room.
        run.tell("withdraw(true, 59, 7)", "withdraw(true, 0, 7)").refused("sight(0, 0, 7, 7)", -6);
        run.due("count(4)", 60).due("count(9)", 2).due("where(0, 7, 7)", 58 % 8);
    }

    private static void sixtyMoves() {
        Sentence.ofTerms("MOVES likewise: a THING goes to a PERSON on a DAY, and has a SORT: "
                + "0 bought, 1 given, 2 taken, 3 lent, 4 back");
        Run run = Books.empty();
        for (int n = 0; n < 60; n++) {
            run.due("count(5)", n).due("move(0, " + n % 8 + ", 7, " + n % 5 + ", 7)", n);
        }
        run.refused("move(0, 0, 7, 0, 7)", -6).refused("move(11, 7, 80000, 4, 80000)", -6).due("count(5)", 60);
        run.due("sight(0, 0, 0, 0)", 0).due("count(4)", 1);
        Sentence.ofPromise("move", "-6 (60, too)");
        run.tell("withdraw(false, 59, 7)", "withdraw(false, 0, 7)").refused("move(0, 0, 7, 0, 7)", -6);
        run.due("count(5)", 60).due("count(9)", 2);
    }

    private static void firstAndLastDays() {
        Sentence.ofTerms("a DAY (0 .. 80000), and when it became KNOWN (a DAY of its own, KNOWN 0 .. 80000)");
        Run run = Books.empty().due("sight(0, 1, 0, 0)", 0).due("sight(0, 2, 80000, 80000)", 1);
        run.due("where(0, 0, 0)", 1).due("where(0, 80000, 79999)", 1).due("where(0, 79999, 80000)", 1);
        run.due("where(0, 80000, 80000)", 2);
        run.due("move(0, 1, 0, 0, 0)", 0).due("move(0, 2, 80000, 2, 80000)", 1);
        run.due("holds(0, 0, 0, 0)", 1).due("holds(0, 80000, 79999, 0)", 1).due("holds(0, 79999, 80000, 0)", 1);
        run.due("holds(0, 80000, 80000, 0)", 2).due("holds(0, 80000, 80000, 2)", 1).due("holds(0, 79999, 80000, 2)", 0);
        run.refused("sight(0, 0, 80001, 0)", -6).refused("sight(0, 0, 0, 80001)", -6);
        run.refused("sight(0, 0, -1, 0)", -4).refused("sight(0, 0, 0, -1)", -4);
        run.refused("move(0, 0, 80001, 0, 0)", -6).refused("move(0, 0, 0, 0, 80001)", -6);
        run.refused("move(0, 0, -1, 0, 0)", -4).refused("move(0, 0, 0, 0, -1)", -4);
    }

    private static void knownOnADayOfItsOwn() {
        Sentence.ofTerms("it counts as of KNOWN days from its own on");
        // Known ahead of the day, on it, and behind it: the two have nothing to do with each other.
        Run run = Books.empty().tell("sight(0, 1, 50, 20)", "sight(1, 2, 50, 50)", "sight(2, 3, 50, 70)");
        run.due("where(0, 50, 19)", -9).due("where(0, 50, 20)", 1).due("where(0, 49, 20)", -9);
        run.due("where(1, 50, 49)", -9).due("where(1, 50, 50)", 2).due("where(1, 49, 80000)", -9);
        run.due("where(2, 50, 69)", -9).due("where(2, 50, 70)", 3).due("where(2, 80000, 69)", -9);
        run.tell("move(0, 1, 50, 0, 20)", "move(1, 2, 50, 2, 70)");
        run.due("holds(0, 50, 19, 0)", -9).due("holds(0, 50, 20, 0)", 1).due("holds(0, 50, 20, 1)", 1);
        run.due("holds(1, 50, 69, 2)", 0).due("holds(1, 50, 70, 2)", 1).due("holds(1, 50, 69, 0)", -9);
    }

    private static void withdrawnNotAheadOfItsOwn() {
        Sentence.ofTerms("A record may be WITHDRAWN at a KNOWN day (not ahead of its own KNOWN)");
        for (int known : new int[] {0, 1, 40000, 80000}) {
            Run run = Books.empty().tell("sight(0, 1, 5, " + known + ")", "move(0, 1, 5, 0, " + known + ")");
            run.refused("withdraw(true, 0, " + (known - 1) + ")", -4).refused("withdraw(false, 0, " + (known - 1) + ")", -4);
            run.due("withdraw(true, 0, " + known + ")", 1).due("withdraw(false, 0, " + known + ")", 1);
            // From its own day on, till ahead of that same day: on no day at all.
            run.due("where(0, 5, " + known + ")", -9).due("holds(0, 5, " + known + ", 0)", -9);
            run.due("where(0, 5, 80000)", -9).due("where(0, 5, 0)", -9).due("since(0, 5, 80000)", 0);
        }
        Run ahead = Books.empty().tell("sight(0, 1, 50, 5)").due("withdraw(true, 0, 6)", 1);
        ahead.due("where(0, 50, 5)", 1).due("where(0, 50, 6)", -9);
    }

    private static void countsTillAheadOfThat() {
        Sentence.ofTerms("till ahead of that");
        Run run = Books.empty().tell("sight(0, 1, 5, 10)", "move(0, 1, 5, 2, 10)", "withdraw(true, 0, 20)",
                "withdraw(false, 0, 20)");
        for (int known : new int[] {9, 10, 19, 20, 21, 80000}) {
            boolean counts = known >= 10 && known < 20;
            run.due("where(0, 5, " + known + ")", counts ? 1 : -9).due("holds(0, 5, " + known + ", 0)", counts ? 1 : -9);
            run.due("holds(0, 5, " + known + ", 2)", counts ? 1 : 0);
        }
        Run last = Books.empty().tell("sight(0, 1, 5, 0)", "withdraw(true, 0, 80000)");
        last.due("where(0, 5, 0)", 1).due("where(0, 5, 79999)", 1).due("where(0, 5, 80000)", -9);
    }

    private static void withdrawnOnce() {
        Sentence.ofPromise("withdraw", "-3 it was");
        Run run = Books.empty().tell("sight(0, 1, 5, 10)", "sight(0, 2, 4, 10)", "move(0, 1, 5, 0, 10)",
                "withdraw(true, 0, 20)");
        run.refused("withdraw(true, 0, 20)", -3).refused("withdraw(true, 0, 10)", -3).refused("withdraw(true, 0, 30)", -3);
        run.due("withdraw(true, 0, 15)", -3).due("where(0, 5, 19)", 1).due("where(0, 5, 20)", 2);
        run.due("count(9)", 1).due("withdraw(false, 0, 20)", 1).due("count(9)", 2);
        run.due("withdraw(false, 0, 20)", -3).due("withdraw(true, 1, 20)", 1).due("count(9)", 3);
        run.refused("withdraw(true, 2, 20)", -1).refused("withdraw(false, 1, 20)", -1);
        run.due("count(4)", 2).due("count(5)", 1);
    }

    private static void latestDayNotBehind() {
        Sentence.ofTerms("where a THING was on a DAY: the PLACE of the SIGHT of the latest DAY not behind it");
        Run run = Books.empty().tell("sight(0, 3, 30, 0)", "sight(0, 1, 10, 0)", "sight(0, 2, 20, 0)", "sight(1, 7, 25, 0)");
        run.due("where(0, 9, 0)", -9).due("where(0, 10, 0)", 1).due("where(0, 11, 0)", 1);
        run.due("where(0, 19, 0)", 1).due("where(0, 20, 0)", 2).due("where(0, 29, 0)", 2).due("where(0, 30, 0)", 3);
        run.due("where(0, 80000, 0)", 3).due("where(1, 24, 0)", -9).due("where(1, 25, 0)", 7);
        Sentence.ofPromise("where", "-9 unknown");
        run.due("where(2, 80000, 80000)", -9).due("where(0, 0, 80000)", -9).due("count(11)", 0);
    }

    private static void greatestNumberOfOneDay() {
        Sentence.ofPromise("where", "of SIGHTS of one DAY that QUARREL the one of the greatest number");
        Run run = Books.empty().tell("sight(0, 5, 30, 2)", "sight(0, 1, 30, 0)", "sight(0, 7, 29, 0)", "sight(0, 3, 30, 1)");
        run.due("where(0, 30, 0)", 1).due("where(0, 30, 1)", 3).due("where(0, 30, 2)", 3).due("where(0, 29, 2)", 7);
        run.tell("withdraw(true, 3, 3)").due("where(0, 30, 3)", 1).tell("withdraw(true, 1, 4)").due("where(0, 30, 4)", 5);
        run.tell("withdraw(true, 0, 5)").due("where(0, 30, 5)", 7).due("where(0, 30, 2)", 3);
    }

    private static void quarrelOfOneDay() {
        Sentence.ofTerms("Two SIGHTS of a THING of one DAY in two PLACES QUARREL");
        Books.empty().tell("sight(0, 1, 5, 0)").due("quarrels(0, 0)", 0);
        Books.empty().tell("sight(0, 1, 5, 0)", "sight(0, 1, 5, 0)").due("quarrels(0, 0)", 0);
        Books.empty().tell("sight(0, 1, 5, 0)", "sight(0, 2, 5, 0)").due("quarrels(0, 0)", 1);
        Books.empty().tell("sight(0, 1, 5, 0)", "sight(0, 2, 6, 0)", "sight(0, 3, 4, 0)").due("quarrels(0, 0)", 0);
        Books.empty().tell("sight(0, 1, 5, 0)", "sight(1, 2, 5, 0)").due("quarrels(0, 0)", 0).due("quarrels(1, 0)", 0);
        Books.empty().tell("sight(0, 3, 0, 0)").due("quarrels(0, 0)", 0).due("quarrels(0, 80000)", 0);
        Books.empty().tell("sight(0, 0, 0, 0)", "sight(0, 7, 0, 0)").due("quarrels(0, 0)", 1);
        Books.empty().tell("sight(0, 7, 80000, 0)", "sight(0, 0, 80000, 0)").due("quarrels(0, 0)", 1);
    }

    private static void quarrelDays() {
        Sentence.ofPromise("quarrels", "How many DAYS there are on which SIGHTS of a THING QUARREL, as of KNOWN.");
        // All places of one day are one day; thirty days of two places each are thirty.
        Books.empty().tellTimes(8, "sight(0, #, 5, 0)").due("quarrels(0, 0)", 1);
        Books.empty().tellTimes(30, "sight(0, 1, #, 0)").tellTimes(30, "sight(0, 2, #, 0)").due("quarrels(0, 0)", 30);
        Run run = Books.empty().tell("sight(0, 1, 5, 10)", "sight(0, 2, 5, 20)", "withdraw(true, 0, 30)");
        run.due("quarrels(0, 9)", 0).due("quarrels(0, 19)", 0).due("quarrels(0, 20)", 1).due("quarrels(0, 29)", 1);
        run.due("quarrels(0, 30)", 0).due("quarrels(0, 80000)", 0).due("quarrels(1, 20)", 0);
        // Other days and other things told between the two don't part them.
        Run apart = Books.empty().tell("sight(0, 1, 5, 0)", "sight(0, 1, 9, 0)", "sight(1, 3, 5, 0)", "sight(0, 2, 5, 0)");
        apart.due("quarrels(0, 0)", 1).due("quarrels(1, 0)", 0);
    }

    private static void movesNotBehind() {
        Sentence.ofTerms("HOLDER on a DAY: by MOVES of DAYS not behind it");
        Run run = Books.empty().tell("move(0, 1, 10, 0, 0)", "move(0, 2, 20, 1, 0)", "move(0, 3, 30, 2, 0)",
                "move(0, 4, 40, 3, 0)", "move(0, 5, 50, 4, 0)");
        int[] days = {0, 9, 10, 19, 20, 29, 30, 39, 40, 49, 50, 80000};
        int[] holders = {-9, -9, 1, 1, 2, 2, 3, 3, 4, 4, 3, 3};
        for (int n = 0; n < days.length; n++) {
            run.due("holds(0, " + days[n] + ", 0, 0)", holders[n]);
        }
        run.due("holds(1, 80000, 80000, 0)", -9);
    }

    private static void byDaysThenByNumbers() {
        Sentence.ofTerms("by DAYS, then by numbers: who had it last");
        Run run = Books.empty().tell("move(0, 3, 30, 0, 0)", "move(0, 1, 10, 0, 0)", "move(0, 2, 20, 0, 0)");
        run.due("holds(0, 10, 0, 0)", 1).due("holds(0, 20, 0, 0)", 2).due("holds(0, 30, 0, 0)", 3);
        Books.empty().tell("move(0, 1, 5, 0, 0)", "move(0, 2, 5, 0, 0)").due("holds(0, 5, 0, 0)", 2);
        Books.empty().tell("move(0, 2, 5, 0, 9)", "move(0, 1, 5, 0, 3)").due("holds(0, 5, 9, 0)", 1);
        // Of one day: lent, then back, is another thing than back, then lent.
        Books.empty().tell("move(0, 1, 1, 0, 0)", "move(0, 2, 5, 3, 0)", "move(0, 7, 5, 4, 0)").due("holds(0, 5, 0, 0)", 1);
        Books.empty().tell("move(0, 1, 1, 0, 0)", "move(0, 7, 5, 4, 0)", "move(0, 2, 5, 3, 0)").due("holds(0, 5, 0, 0)", 2);
    }

    private static void lentAndBack() {
        Sentence.ofTerms("lent: the PERSON has it, back: whoever lent it last, and had it not back yet, has it again");
        Run run = Books.empty().tell("move(0, 1, 1, 0, 0)", "move(0, 2, 2, 3, 0)", "move(0, 3, 3, 3, 0)",
                "move(0, 0, 4, 4, 0)", "move(0, 4, 5, 3, 0)", "move(0, 0, 6, 4, 0)", "move(0, 0, 7, 4, 0)");
        int[] holders = {-9, 1, 2, 3, 2, 4, 2, 1};
        for (int day = 0; day < holders.length; day++) {
            run.due("holds(0, " + day + ", 0, 0)", holders[day]);
        }
        // A lending that is withdrawn was none: the one back then is the lender before.
        run.tell("withdraw(false, 2, 9)").due("holds(0, 4, 9, 0)", 1).due("holds(0, 4, 8, 0)", 2);
    }

    private static void nobodyHadIt() {
        Sentence.ofTerms("(nobody, if nobody had it then;");
        Run run = Books.empty().tell("move(0, 5, 1, 3, 0)", "move(0, 6, 2, 4, 0)");
        run.due("holds(0, 0, 0, 0)", -9).due("holds(0, 1, 0, 0)", 5).due("holds(0, 2, 0, 0)", -9);
        Run twice = Books.empty().tell("move(0, 5, 1, 3, 0)", "move(0, 6, 2, 3, 0)", "move(0, 7, 3, 4, 0)", "move(0, 7, 4, 4, 0)");
        twice.due("holds(0, 2, 0, 0)", 6).due("holds(0, 3, 0, 0)", 5).due("holds(0, 4, 0, 0)", -9);
        Sentence.ofTerms("nobody at first");
        Books.empty().due("holds(0, 0, 0, 0)", -9).due("holds(11, 80000, 80000, 0)", -9).due("holds(5, 9, 9, 1)", -9);
    }

    private static void nothingIsLent() {
        Sentence.ofTerms("if nothing is lent nothing changes");
        Books.empty().tell("move(0, 5, 1, 4, 0)").due("holds(0, 1, 0, 0)", -9);
        Books.empty().tell("move(0, 1, 1, 0, 0)", "move(0, 5, 2, 4, 0)").due("holds(0, 2, 0, 0)", 1);
        Run run = Books.empty().tell("move(0, 1, 1, 1, 0)", "move(0, 2, 2, 3, 0)", "move(0, 3, 3, 4, 0)",
                "move(0, 3, 4, 4, 0)", "move(0, 3, 5, 4, 0)", "move(0, 4, 6, 3, 0)", "move(0, 3, 7, 4, 0)");
        run.due("holds(0, 3, 0, 0)", 1).due("holds(0, 4, 0, 0)", 1).due("holds(0, 5, 0, 0)", 1);
        run.due("holds(0, 6, 0, 0)", 4).due("holds(0, 7, 0, 0)", 1);
    }

    private static void whoIsNamed() {
        Sentence.ofTerms("who is named counts nothing");
        for (int person = 0; person < 8; person++) {
            Run run = Books.empty().tell("move(0, 1, 1, 0, 0)", "move(0, 2, 2, 3, 0)", "move(0, " + person + ", 3, 4, 0)");
            run.due("holds(0, 3, 0, 0)", 1).due("holds(0, 3, 0, 1)", 1);
        }
    }

    private static void nothingIsLentAnyMore() {
        Sentence.ofTerms("bought, given, taken: the PERSON has it, and nothing is lent any more");
        for (int sort = 0; sort <= 2; sort++) {
            Run run = Books.empty().tell("move(0, 1, 1, 0, 0)", "move(0, 2, 2, 3, 0)", "move(0, 3, 3, 3, 0)",
                    "move(0, 4, 4, " + sort + ", 0)", "move(0, 5, 5, 4, 0)", "move(0, 6, 6, 3, 0)", "move(0, 5, 7, 4, 0)",
                    "move(0, 5, 8, 4, 0)");
            run.due("holds(0, 3, 0, 0)", 3).due("holds(0, 4, 0, 0)", 4).due("holds(0, 5, 0, 0)", 4);
            run.due("holds(0, 6, 0, 0)", 6).due("holds(0, 7, 0, 0)", 4).due("holds(0, 8, 0, 0)", 4);
        }
    }

    private static void lentToTheLast() {
        Sentence.ofTerms("whoever lent it last, and had it not back yet, has it again");
        Run all = Books.empty();
        for (int n = 0; n < 60; n++) {
            all.tell("move(0, " + n % 8 + ", " + n + ", 3, 0)");
        }
        all.due("holds(0, 59, 0, 0)", 59 % 8).due("holds(0, 80000, 0, 0)", 59 % 8).due("holds(0, 80000, 0, 1)", -9);
        Run half = Books.empty();
        for (int n = 0; n < 30; n++) {
            half.tell("move(0, " + n % 8 + ", " + n + ", 3, 0)", "move(0, 0, " + (30 + n) + ", 4, 0)");
        }
        for (int n = 0; n < 30; n++) {
            half.due("holds(0, " + (30 + n) + ", 0, 0)", n == 29 ? -9 : (28 - n) % 8);
        }
    }

    private static void owner() {
        Sentence.ofTerms("OWNER: likewise, but lent and back change nothing, and taken: no OWNER any more "
                + "(till it is bought or given)");
        Run run = Books.empty().tell("move(0, 7, 0, 3, 0)", "move(0, 1, 1, 0, 0)", "move(0, 2, 2, 3, 0)", "move(0, 2, 3, 4, 0)",
                "move(0, 3, 4, 2, 0)", "move(0, 4, 5, 3, 0)", "move(0, 4, 6, 4, 0)", "move(0, 5, 7, 0, 0)",
                "move(0, 3, 8, 2, 0)", "move(0, 6, 9, 1, 0)");
        int[] owners = {-9, 1, 1, 1, -9, -9, -9, 5, -9, 6, 6};
        for (int day = 0; day < owners.length; day++) {
            run.due("holds(0, " + day + ", 0, 1)", owners[day]);
        }
        Books.empty().tell("move(0, 0, 0, 2, 0)").due("holds(0, 0, 0, 1)", -9).due("holds(0, 0, 0, 0)", 0);
        Books.empty().tell("move(0, 0, 5, 1, 0)").due("holds(0, 4, 0, 1)", -9).due("holds(0, 5, 0, 1)", 0);
        // What was asked of one thing is no answer for another one.
        Books.empty().tell("move(0, 3, 5, 0, 0)").due("holds(0, 5, 0, 1)", 3).due("holds(1, 5, 0, 1)", -9)
                .due("holds(0, 5, 0, 0)", 3).due("holds(1, 5, 0, 0)", -9).due("holds(0, 4, 0, 1)", -9);
        // By days, then by numbers, here too.
        Books.empty().tell("move(0, 2, 9, 0, 0)", "move(0, 1, 5, 0, 0)").due("holds(0, 9, 0, 1)", 2);
        Books.empty().tell("move(0, 2, 5, 2, 0)", "move(0, 1, 5, 0, 0)").due("holds(0, 5, 0, 1)", 1);
        Books.empty().tell("move(0, 1, 5, 0, 0)", "move(0, 2, 5, 2, 0)").due("holds(0, 5, 0, 1)", -9);
    }

    private static void stolen() {
        Sentence.ofTerms("STOLEN on a DAY: the latest MOVE that is no lent or back is taken");
        Run run = Books.empty().tell("move(0, 7, 0, 3, 0)", "move(0, 1, 1, 2, 0)", "move(0, 2, 2, 3, 0)", "move(0, 2, 3, 4, 0)",
                "move(0, 3, 4, 0, 0)", "move(0, 4, 5, 2, 0)", "move(0, 5, 6, 1, 0)");
        int[] stolen = {0, 1, 1, 1, 0, 1, 0, 0};
        for (int day = 0; day < stolen.length; day++) {
            run.due("holds(0, " + day + ", 0, 2)", stolen[day]);
        }
        Books.empty().tell("move(0, 1, 5, 2, 0)", "move(0, 2, 5, 0, 0)").due("holds(0, 5, 0, 2)", 0);
        Books.empty().tell("move(0, 2, 5, 0, 0)", "move(0, 1, 5, 2, 0)").due("holds(0, 5, 0, 2)", 1);
        Books.empty().tell("move(0, 1, 5, 2, 0)", "move(0, 2, 4, 0, 0)").due("holds(0, 5, 0, 2)", 1);
        Books.empty().tell("move(0, 1, 5, 2, 7)", "withdraw(false, 0, 9)").due("holds(0, 5, 6, 2)", 0)
                .due("holds(0, 5, 7, 2)", 1).due("holds(0, 5, 8, 2)", 1).due("holds(0, 5, 9, 2)", 0);
    }

    private static void firstKnownDay() {
        Sentence.ofPromise("since", "The first KNOWN day as of which HOLDER of a THING on a DAY is as it is as of KNOWN");
        Run run = Books.empty().tell("move(0, 1, 50, 0, 20)");
        run.due("since(0, 50, 0)", 0).due("since(0, 50, 19)", 0).due("since(0, 50, 20)", 20).due("since(0, 50, 21)", 20);
        run.due("since(0, 50, 80000)", 20).due("since(0, 49, 80000)", 0).due("since(1, 50, 80000)", 0);
        Books.empty().tell("move(0, 1, 0, 0, 0)").due("since(0, 0, 0)", 0).due("since(0, 0, 80000)", 0);
        Books.empty().tell("move(0, 1, 0, 0, 1)").due("since(0, 0, 0)", 0).due("since(0, 0, 1)", 1);
        Books.empty().tell("move(0, 1, 0, 0, 80000)").due("since(0, 0, 79999)", 0).due("since(0, 0, 80000)", 80000);
        // Another move that leaves the holder as he is does not count, nor does one of another thing.
        Run same = Books.empty().tell("move(0, 1, 5, 0, 10)", "move(0, 1, 6, 1, 20)", "move(1, 2, 5, 0, 30)",
                "withdraw(false, 0, 40)");
        same.due("since(0, 6, 19)", 10).due("since(0, 6, 20)", 10).due("since(0, 6, 39)", 10).due("since(0, 6, 50)", 10);
        same.due("since(0, 5, 39)", 10).due("since(0, 5, 40)", 40).due("since(1, 5, 50)", 30);
    }

    private static void allDaysBetween() {
        Sentence.ofPromise("since", "and on all days between these");
        Run run = Books.empty().tell("move(0, 1, 5, 0, 10)", "move(0, 2, 6, 0, 20)", "withdraw(false, 1, 30)");
        run.due("since(0, 6, 19)", 10).due("since(0, 6, 20)", 20).due("since(0, 6, 29)", 20);
        run.due("since(0, 6, 30)", 30).due("since(0, 6, 80000)", 30);
        // Nobody, then one, then nobody again.
        Run gone = Books.empty().tell("move(0, 1, 5, 0, 10)", "withdraw(false, 0, 11)");
        gone.due("since(0, 5, 9)", 0).due("since(0, 5, 10)", 10).due("since(0, 5, 11)", 11).due("since(0, 5, 80000)", 11);
        // One goes and another one comes on the same day: the holder stays.
        Run handed = Books.empty().tell("move(0, 1, 5, 0, 10)", "withdraw(false, 0, 20)", "move(0, 1, 5, 1, 20)");
        handed.due("since(0, 5, 20)", 10).due("since(0, 5, 80000)", 10);
        // As many changes of knowledge as there can be: each of sixty moves comes, and goes two days later.
        Run most = Books.empty();
        for (int n = 0; n < 60; n++) {
            most.tell("move(0, 3, 5, 0, " + (10 + 2 * n) + ")", "withdraw(false, " + n + ", " + (12 + 2 * n) + ")");
        }
        most.due("since(0, 5, 129)", 10).due("since(0, 5, 130)", 130).due("since(0, 5, 9)", 0);
        // Each goes the day behind the next one's coming, so all these days differ and one of them always counts.
        Run days = Books.empty();
        for (int n = 0; n < 60; n++) {
            days.tell("move(0, 3, 5, 0, " + (10 + 2 * n) + ")", "withdraw(false, " + n + ", " + (13 + 2 * n) + ")");
        }
        days.due("since(0, 5, 130)", 10).due("since(0, 5, 131)", 131).due("since(0, 5, 80000)", 131);
        // Three days of which each changes something: it was another one on the first of them only.
        Run next = Books.empty().tell("move(0, 1, 5, 0, 10)", "move(0, 2, 6, 0, 20)", "withdraw(false, 1, 21)",
                "move(0, 1, 5, 0, 22)");
        next.due("since(0, 6, 19)", 10).due("since(0, 6, 20)", 20).due("since(0, 6, 21)", 21).due("since(0, 6, 22)", 21);
        next.due("since(0, 6, 30)", 21).due("since(0, 5, 30)", 10);
        Run gaps = Books.empty();
        for (int n = 0; n < 60; n++) {
            gaps.tell("move(1, 3, 9, 0, " + (10 + 2 * n) + ")", "withdraw(false, " + n + ", " + (11 + 2 * n) + ")");
        }
        gaps.due("since(1, 9, 128)", 128).due("since(1, 9, 129)", 129).due("since(1, 8, 80000)", 0);
    }
}
