/** Books that several tests begin with. */
final class Books {
    private Books() { }

    static Run empty() {
        return new Run();
    }

    /** Each catalogue has that many entries, all alike: any two of two catalogues are of likeness 17. */
    static Run alike(int entries) {
        Run run = new Run();
        for (int c = 0; c < 4; c++) {
            run.tellTimes(entries, "entry(" + c + ", 1, 10, 0, 5)");
        }
        return run;
    }

    /** As many bars as there may be, all between catalogues 2 and 3; of ten entries each. */
    static Run barred() {
        Run run = alike(10);
        for (int i = 0; i < 3; i++) {
            run.tellTimes(10, "bar(2, " + i + ", 3, #)");
        }
        return run;
    }

    /** Nothing more has room here: entries, bars, sights, moves, visitors' words; and all kinds clash. */
    static Run full() {
        Run run = barred();
        run.tellTimes(60, "sight(1, 2, #, 5)");
        run.tellTimes(60, "move(1, 3, #, 0, 5)");
        run.tellTimes(40, "visitor(0, 1, 2, 9)");
        for (int a = 1; a < 6; a++) {
            run.tellTimes(a, "clash(" + a + ", #, true)");
        }
        return run;
    }
}
