/** Boundary cases of the sections "What it is" and "Terms". */
final class TermsSay {
    private static final int BAD = GoldHeaps.BAD, NO = GoldHeaps.NO;
    private static final String WHAT = "What it is", TERMS = "Terms";

    private TermsSay() {
    }

    static void all() {
        whatItIs();
        games();
        limits();
        rows();
        boards();
        refusals();
    }

    private static void whatItIs() {
        Says.says(WHAT, "who can't move has lost", () -> new Run()
            .due(0, "shares(0, 0)", "shares(0, 1)", "shares(1, 0)", "shares(MOST, 0)", "shares(0, MOST)", "both(0, 0)")
            .due(0, "times(1, 0, 0)", "times(1, 0, 1)", "times(9, 0, MOST)", "times(1, 1, 0)", "times(9, MOST, 0)")
            .due(0, "byAll(0, false, 0, 0, 0)", "byAll(0, false, 60, 0, 0)", "byAll(0, false, 0, 60, 0)")
            .due(0, "byAll(1, false, 0, 0, 0)", "byAll(3, false, 0, 0, 0)")
            .due(0, "timesByAll(1, 0, 0)", "timesByAll(1, 0, 60)", "timesByAll(9, 60, 0)")
            .then("board(0, false, 5, 0, 0)").due("about(5)", 0)
            .then("board(1, false, 0, 0, 0)").due("about(5)", 0)
            .then("board(2, false, 0, 1, 0)").due("about(5)", 0)
            .then("board(2, false, 1, 1, 0)").due("about(5)", 0)
            .then("board(3, false, 0, 0, 0)").due("about(5)", 0));
        Says.says(WHAT, "(so, who moves last has won)", () -> new Run()
            .due(1, "shares(1, 1)", "shares(1, 2)", "shares(MOST, MOST)", "both(0, 1)", "both(1, 0)", "both(1, 1)", "both(0, MOST)")
            .due(1, "times(1, 1, 1)", "times(9, 1, MOST)", "times(1, MOST, MOST)")
            .due(1, "byAll(0, false, 1, 1, 0)", "byAll(1, false, 0, 60, 0)", "byAll(3, false, 0, 0, 1)", "byAll(3, false, 10, 0, 0)")
            .due(1, "timesByAll(1, 1, 1)", "timesByAll(9, 60, 60)"));
        Says.says(WHAT, "but of MISERE games has won", () -> new Run()
            .due(1, "byAll(0, true, 0, 0, 0)", "byAll(0, true, 1, 0, 0)", "byAll(0, true, 0, 60, 0)", "byAll(0, true, 60, 0, 0)")
            .due(1, "byAll(1, true, 0, 0, 0)", "byAll(3, true, 0, 0, 0)")
            .due(0, "byAll(0, true, 1, 1, 0)", "byAll(0, true, 60, 60, 0)", "byAll(1, true, 0, 1, 0)", "byAll(1, true, 1, 0, 0)")
            .due(0, "byAll(3, true, 0, 0, 1)", "byAll(3, true, 1, 0, 0)", "byAll(3, true, 0, 1, 0)")
            .then("board(0, true, 5, 0, 0)").due("about(5)", 1)
            .then("board(1, true, 0, 0, 0)").due("about(5)", 1)
            .then("board(3, true, 0, 0, 0)").due("about(5)", 1));
        Says.says(WHAT, "An object is used for at most 512 calls after it has been made", TermsSay::fullRun);
    }

    /** 512 calls on one object, the last as right as the first: all the moves that may be, taken back, and some made again. */
    private static void fullRun() {
        Run run = new Run().due("board(1, false, 150, 150, 0)", 1);
        for (int i = 0; i < 200; i++) run.due("move(" + i % 2 + ", 1)", 1);
        run.due("move(0, 1)", NO);
        for (int i = 199; i >= 0; i--) run.due("undo()", i);
        run.due("undo()", NO);
        for (int i = 0; i < 100; i++) run.due("move(" + i % 2 + ", 1)", 1);
        run.due("about(0)", 100).due("about(1)", 100).due("about(4)", 100).due("about(5)", 1).due("undo()", 99);
        run.due("row(9, 232)", 905643621028L).due("lost(300000000000, 1)", 785410196624L).due("byAll(3, true, 1, 1, 1)", 0);
        run.due("digest()", 31 * digestOfEight(100, 101, 0, 0, 99, 1, 1, 99) + 1);
        Due.due(Says.now() + "calls made", run.calls(), 512);
    }

    private static long digestOfEight(long... values) {
        long h = 227;
        for (long v : values) h = 31 * h + v;
        return h;
    }

    private static void games() {
        Says.says(TERMS, "from the greater one (either, if alike)", () -> new Run()
            .then("board(0, false, 7, 21, 0)").refused(NO, "move(0, 7)", "move(0, 21)", "move(0, 1)").due("move(1, 7)", 1)
            .then("board(0, false, 21, 7, 0)").refused(NO, "move(1, 7)", "move(1, 21)", "move(1, 1)").due("move(0, 7)", 1)
            .then("board(0, false, 7, 7, 0)").due("move(0, 7)", 2).abouts(0, 7, 0, 0, 1, 0, 1, 0, 0)
            .then("board(0, false, 7, 7, 0)").due("move(1, 7)", 2).abouts(7, 0, 0, 0, 1, 0, 1, 0, 0));
        Says.says(TERMS, "a multiple (1 or more times) of the other one is taken, which is not 0", () -> new Run()
            .then("board(0, false, 20, 6, 0)").refused(NO, "move(0, 0)", "move(0, -6)", "move(0, 1)", "move(0, 5)", "move(0, 7)", "move(0, 20)")
            .due("move(0, 6)", 1).due("about(0)", 14).then("undo()")
            .due("move(0, 12)", 1).due("about(0)", 8).then("undo()")
            .due("move(0, 18)", 1).due("about(0)", 2));
        Says.says(TERMS, "no more than there is.", () -> new Run()
            .then("board(0, false, 20, 6, 0)").refused(NO, "move(0, 24)", "move(0, 600)").due("move(0, 18)", 1)
            .then("board(0, false, 12, 6, 0)").refused(NO, "move(0, 18)").due("move(0, 12)", 2)
            .then("board(0, false, 7, 7, 0)").refused(NO, "move(0, 14)", "move(1, 14)"));
        Says.says(TERMS, "No move with a 0.", () -> new Run()
            .then("board(0, false, 12, 6, 0)", "move(0, 12)").refused(NO, "move(0, 0)", "move(0, 6)", "move(1, 0)", "move(1, 6)", "move(1, 1)")
            .then("board(0, false, 5, 0, 0)").refused(NO, "move(0, 0)", "move(0, 1)", "move(0, 5)", "move(1, 0)", "move(1, 5)")
            .then("board(0, false, 0, 5, 0)").refused(NO, "move(1, 0)", "move(1, 1)", "move(1, 5)", "move(0, 0)", "move(0, 5)")
            .then("board(0, false, 0, 0, 0)").refused(NO, "move(0, 0)", "move(0, 1)", "move(1, 0)", "move(1, 1)")
            .due(0, "sharesMove(0, 0)", "sharesMove(5, 0)", "sharesMove(0, 5)"));
        Says.says(TERMS, "GAME 1 BOTH: of one heap 1 or more are taken, or of both the same number, 1 or more.", () -> new Run()
            .then("board(1, false, 3, 5, 0)")
            .refused(NO, "move(0, 0)", "move(1, 0)", "move(2, 0)", "move(0, -1)", "move(1, -1)", "move(2, -1)")
            .refused(NO, "move(0, 4)", "move(1, 6)", "move(2, 4)")
            .due("move(0, 1)", 1).abouts(2, 5, 0, 0, 1, 1, 1, 0, 1).then("undo()")
            .due("move(0, 3)", 1).abouts(0, 5, 0, 0, 1, 1, 1, 0, 1).then("undo()")
            .due("move(1, 1)", 1).abouts(3, 4, 0, 0, 1, 1, 1, 0, 1).then("undo()")
            .due("move(1, 5)", 1).abouts(3, 0, 0, 0, 1, 1, 1, 0, 1).then("undo()")
            .due("move(2, 1)", 1).abouts(2, 4, 0, 0, 1, 1, 1, 0, 1).then("undo()")
            .due("move(2, 3)", 1).abouts(0, 2, 0, 0, 1, 1, 1, 0, 1));
        Says.says(TERMS, "GAME 2 TIMES t (1 .. 9)", () -> {
            new Run().due("row(1, 0)", 1).due("row(9, 0)", 1).due("digits(1, 3)", 2).due("digits(9, 11)", 2)
                .due("last(1, 3)", 1).due("last(9, 11)", 1).due("times(1, 3, 1)", 1).due("times(9, 11, 1)", 1)
                .due("timesMove(1, 3, 1)", 1).due("timesMove(9, 11, 1)", 1)
                .due("timesByAll(1, 3, 1)", 1).due("timesByAll(9, 11, 1)", 1)
                .due("board(2, false, 5, 1, 0)", 1).due("move(0, 1)", 1).due("about(3)", 1)
                .due("board(2, false, 5, 9, 0)", 1).due("move(0, 1)", 1).due("about(3)", 9);
            for (String t : new String[] {"0", "10", "-1", "MIN", "MAX"}) {
                Run.badAnywhere("row(" + t + ", 0)", "digits(" + t + ", 1)", "last(" + t + ", 1)", "times(" + t + ", 1, 1)",
                    "timesMove(" + t + ", 1, 1)", "timesByAll(" + t + ", 1, 1)", "board(2, false, 5, " + t + ", 0)");
            }
            // A t that only an int would take for 2.
            Run.badAnywhere("board(2, false, 5, 4294967298, 0)");
        });
        Says.says(TERMS, "1 up to b are taken, but no more than n", () -> new Run()
            .then("board(2, false, 10, 2, 0)").refused(NO, "move(0, 0)", "move(0, -1)", "move(0, 10)", "move(0, 11)")
            .due("move(0, 9)", 1).then("undo()")
            .due("move(0, 1)", 1).refused(NO, "move(0, 0)", "move(0, 3)").due("move(0, 2)", 1).due("about(0)", 7)
            .refused(NO, "move(0, 5)").due("move(0, 4)", 1).due("about(0)", 3).due("about(3)", 8)
            .refused(NO, "move(0, 4)", "move(0, 8)").due("move(0, 3)", 2).due("about(0)", 0));
        Says.says(TERMS, "behind taking x the bound is t x", () -> new Run()
            .then("board(2, false, 100, 7, 0)", "move(0, 1)").due("about(3)", 7).then("move(0, 6)").due("about(3)", 42)
            .then("undo()").due("about(3)", 7).then("undo()").due("about(3)", 99)
            .then("board(2, false, 100, 1, 0)", "move(0, 9)").due("about(3)", 9).refused(NO, "move(0, 10)").due("move(0, 9)", 1));
        Says.says(TERMS, "of one of them 1 or more are taken, or of all the same number, 1 or more.", () -> new Run()
            .then("board(3, false, 3, 4, 5)")
            .refused(NO, "move(0, 0)", "move(1, 0)", "move(2, 0)", "move(3, 0)", "move(0, -1)", "move(1, -1)", "move(2, -1)", "move(3, -1)")
            .refused(NO, "move(0, 4)", "move(1, 5)", "move(2, 6)", "move(3, 4)", "move(3, 5)")
            .due("move(0, 3)", 1).due("about(0)", 0).refused(NO, "move(3, 1)").then("undo()")
            .due("move(1, 4)", 1).due("about(1)", 0).refused(NO, "move(3, 1)").then("undo()")
            .due("move(2, 5)", 1).due("about(2)", 0).refused(NO, "move(3, 1)").then("undo()")
            .due("move(3, 1)", 1).due("about(0)", 2).due("about(1)", 3).due("about(2)", 4).then("undo()")
            .due("move(3, 3)", 1).due("about(0)", 0).due("about(1)", 1).due("about(2)", 2));
    }

    private static void limits() {
        Says.says(TERMS, "Heaps are 0 .. 1000000000000", () -> {
            new Run().due("shares(0, 0)", 0).due("shares(MOST, MOST)", 1).due("sharesMove(0, MOST)", 0).due("sharesMove(MOST, 1)", Due.GREATEST)
                .due("both(0, 0)", 0).due("both(MOST, MOST)", 1).due("bothMove(MOST, 0, 1)", Due.GREATEST).due("bothMove(0, MOST, 1)", Due.GREATEST)
                .due("lostOf(0, 0)", 0).due("lostOf(MOST, 0)", 618033988750L).due("digits(2, 0)", 0).due("digits(2, MOST)", 15)
                .due("last(2, MOST)", 3).due("times(2, 0, 1)", 0).due("times(2, MOST, 3)", 1)
                .due("timesMove(2, 0, 1)", 0).due("timesMove(2, MOST, MOST)", 3)
                .due("board(0, false, MOST, 0, 0)", 1).due("about(0)", Due.GREATEST).due("board(0, false, 0, MOST, 0)", 1).due("about(1)", Due.GREATEST)
                .due("board(1, false, MOST, 0, 0)", 1).due("about(0)", Due.GREATEST).due("board(1, false, 0, MOST, 0)", 1).due("about(1)", Due.GREATEST)
                .due("board(2, false, MOST, 1, 0)", 1).due("about(0)", Due.GREATEST).due("board(2, false, 0, 1, 0)", 1).due("about(0)", 0);
            for (String h : new String[] {"-1", "ABOVE", "MIN", "MAX"}) {
                Run.badAnywhere("shares(" + h + ", 1)", "shares(1, " + h + ")", "sharesMove(" + h + ", 1)", "sharesMove(1, " + h + ")",
                    "both(" + h + ", 1)", "both(1, " + h + ")", "bothMove(" + h + ", 1, 0)", "bothMove(1, " + h + ", 1)",
                    "lostOf(" + h + ", 0)", "lostOf(" + h + ", 1)", "digits(2, " + h + ")", "last(2, " + h + ")",
                    "times(2, " + h + ", 1)", "timesMove(2, " + h + ", 1)",
                    "board(0, false, " + h + ", 1, 0)", "board(0, false, 1, " + h + ", 0)",
                    "board(1, false, " + h + ", 1, 0)", "board(1, false, 1, " + h + ", 0)", "board(2, false, " + h + ", 1, 0)");
            }
        });
        Says.says(TERMS, "bounds 0 .. 1000000000000", () -> {
            new Run().due("times(2, 4, 0)", 0).due("times(2, 4, MOST)", 1).due("timesMove(2, 4, 0)", 0).due("timesMove(2, 4, MOST)", 1);
            for (String b : new String[] {"-1", "ABOVE", "MIN", "MAX"}) Run.badAnywhere("times(2, 4, " + b + ")", "timesMove(2, 4, " + b + ")");
        });
        Says.says(TERMS, "(what t x is more counts as that)", () -> new Run()
            .then("board(2, false, MOST, 9, 0)", "move(0, 111111111111)").due("about(3)", 999999999999L)
            .then("undo()", "move(0, 111111111112)").due("about(3)", Due.GREATEST)
            .then("undo()", "move(0, 999999999999)").due("about(3)", Due.GREATEST)
            .then("board(2, false, MOST, 2, 0)", "move(0, 500000000000)").due("about(3)", Due.GREATEST)
            .due("move(0, 500000000000)", 2).due("about(3)", Due.GREATEST)
            .then("undo()", "undo()", "move(0, 500000000001)").due("about(3)", Due.GREATEST)
            .then("board(2, false, MOST, 1, 0)", "move(0, 999999999999)").due("about(3)", 999999999999L));
        Says.says(TERMS, "GAME 3 THREE: three heaps, each 0 .. 10", () -> {
            new Run().due(1, "board(3, false, 0, 0, 0)", "board(3, false, 10, 10, 10)", "board(3, true, 10, 10, 10)")
                .due("about(0)", 10).due("about(1)", 10).due("about(2)", 10)
                .due(0, "byAll(3, false, 0, 0, 0)").due(1, "byAll(3, false, 10, 10, 10)");
            for (String h : new String[] {"-1", "11", "60", "MIN", "MAX"}) {
                for (String heaps : new String[] {h + ", 1, 1", "1, " + h + ", 1", "1, 1, " + h}) {
                    Run.badAnywhere("board(3, false, " + heaps + ")", "board(3, true, " + heaps + ")",
                        "byAll(3, false, " + heaps + ")", "byAll(3, true, " + heaps + ")");
                }
            }
        });
    }

    private static void rows() {
        Says.says(TERMS, "the k-th (from 0 on) is x(k), x(k) + k, x(k) the least number that is in none ahead of it", () -> {
            long[] lesser = {0, 1, 3, 4, 6, 8, 9, 11, 12, 14, 16, 17, 19, 21};
            Run run = new Run();
            for (int k = 0; k < lesser.length; k++) {
                run.due("lost(" + k + ", 0)", lesser[k]).due("lost(" + k + ", 1)", lesser[k] + k);
                run.due("both(" + lesser[k] + ", " + (lesser[k] + k) + ")", 0).due("both(" + (lesser[k] + k) + ", " + lesser[k] + ")", 0);
                if (k > 0) run.due("both(" + lesser[k] + ", " + (lesser[k] + k - 1) + ")", 1);
                run.due("both(" + lesser[k] + ", " + (lesser[k] + k + 1) + ")", 1);
            }
        });
        // The numbers of Fibonacci are where the cut comes nearest to a whole number, now above, now below.
        Says.says(TERMS, "(It is the greatest whole number no more than k times half of 1 and the square root of 5.)", () -> new Run()
            .due("lost(1, 0)", 1).due("lost(2, 0)", 3).due("lost(5, 0)", 8).due("lost(8, 0)", 12).due("lost(13, 0)", 21).due("lost(21, 0)", 33)
            .due("lost(225851433717, 0)", 365435296161L).due("lost(139583862445, 0)", 225851433717L)
            .due("lost(299999999999, 0)", 485410196623L).due("lost(300000000000, 0)", 485410196624L));
        Says.says(TERMS, "THE ROW for t: 1 at first", () -> {
            for (int t = 1; t <= 9; t++) new Run().due("row(" + t + ", 0)", 1).due("row(" + t + ", 1)", 2);
        });
        Says.says(TERMS, "behind a number h comes h and the least number m of THE ROW up to h for which t m is h or more", () -> {
            rowStarts(1, 1, 2, 4, 8, 16, 32, 64);
            rowStarts(2, 1, 2, 3, 5, 8, 13, 21, 34);
            rowStarts(3, 1, 2, 3, 4, 6, 8, 11, 15, 21, 29, 40);
            rowStarts(4, 1, 2, 3, 4, 5, 7, 9, 12, 15, 19, 24, 31, 40);
            rowStarts(9, 1, 2, 3, 4, 5, 6, 7, 8, 9, 10, 12, 14, 16, 18, 20, 23);
        });
        Says.says(TERMS, "A heap n of 1 or more is a sum by THE ROW: the greatest number of it that is no more than n, "
            + "then likewise of what is left: its LAST is the last one.", () -> new Run()
            .due("digits(2, 1)", 1).due("last(2, 1)", 1).due("digits(2, 4)", 2).due("last(2, 4)", 1)
            .due("digits(2, 13)", 1).due("last(2, 13)", 13).due("digits(2, 12)", 3).due("last(2, 12)", 1).due("digits(2, 14)", 2).due("last(2, 14)", 1)
            .due("digits(2, 956722026041)", 1).due("last(2, 956722026041)", 956722026041L)
            .due("digits(2, 956722026040)", 29).due("last(2, 956722026040)", 1)
            .due("digits(1, 549755813887)", 39).due("last(1, 549755813887)", 1).due("last(1, 549755813888)", 549755813888L));
        Says.says(TERMS, "TIMES t at n, b is WON just where b is n's LAST or more.", () -> new Run()
            .due("times(2, 13, 12)", 0).due("times(2, 13, 13)", 1).due("times(2, 13, 14)", 1).due("times(2, 11, 2)", 0).due("times(2, 11, 3)", 1)
            .due("times(1, MOST, 4095)", 0).due("times(1, MOST, 4096)", 1).due("times(9, MOST, 4)", 0).due("times(9, MOST, 5)", 1)
            .due("times(1, 549755813888, 549755813887)", 0).due("times(1, 549755813888, 549755813888)", 1));
        Says.says(TERMS, "SHARES at a, b, none 0: with a the greater, WON where a by b is more than half of 1 and the square root of 5, or a is b.",
            () -> new Run()
            .due(0, "shares(8, 5)", "shares(12, 8)", "shares(16, 10)", "shares(21, 13)", "shares(33, 21)", "shares(6, 5)", "shares(5, 8)")
            .due(1, "shares(9, 5)", "shares(13, 8)", "shares(17, 10)", "shares(22, 13)", "shares(34, 21)", "shares(5, 9)", "shares(5, 5)")
            .due(0, "shares(MOST, 618033988750)", "shares(618033988750, MOST)", "shares(MOST, 999999999999)", "shares(2, 3)")
            .due(1, "shares(MOST, 618033988749)", "shares(618033988749, MOST)", "shares(MOST, MOST)", "shares(1, 1)", "shares(2, 1)")
            .due("shares(365435296162, 225851433717)", 1).due("shares(225851433717, 139583862445)", 0).due("shares(591286729879, 365435296162)", 0));
    }

    private static void rowStarts(int t, long... numbers) {
        Run run = new Run();
        for (int i = 0; i < numbers.length; i++) run.due("row(" + t + ", " + i + ")", numbers[i]);
    }

    private static void boards() {
        Says.says(TERMS, "of TIMES a bound (n less 1 at first)", () -> new Run()
            .then("board(2, false, MOST, 9, 0)").due("about(3)", 999999999999L).refused(NO, "move(0, MOST)")
            .then("board(2, false, 2, 9, 0)").due("about(3)", 1).refused(NO, "move(0, 2)").due("move(0, 1)", 1).due("move(0, 1)", 2)
            .then("board(2, false, 1, 9, 0)").due("about(3)", 0).due("about(5)", 0).refused(NO, "move(0, 1)", "move(0, 0)")
            // Bounds are 0 or more, so an empty heap's is no less than 0.
            .then("board(2, false, 0, 9, 0)").due("about(3)", 0).due("about(5)", 0).refused(NO, "move(0, 1)", "move(0, 0)"));
        Says.says(TERMS, "MISERE is told (BY ALL) for heaps up to 60 (BOTH, SHARES), or 10 (THREE)", () -> {
            new Run().due(1, "board(0, true, 60, 60, 0)", "board(0, true, 0, 0, 0)", "board(1, true, 60, 60, 0)", "board(3, true, 10, 10, 10)")
                .due(0, "byAll(0, true, 60, 60, 0)").due(1, "byAll(1, true, 60, 60, 0)").due(0, "byAll(3, true, 10, 10, 0)")
                .due("board(0, false, 61, 61, 0)", 1).due("board(1, false, 61, 61, 0)", 1);
            Run.badAnywhere("board(0, true, 61, 1, 0)", "board(0, true, 1, 61, 0)", "board(1, true, 61, 1, 0)", "board(1, true, 1, 61, 0)",
                "board(3, true, 11, 1, 1)", "board(3, true, 1, 11, 1)", "board(3, true, 1, 1, 11)",
                "byAll(0, true, 61, 1, 0)", "byAll(0, true, 1, 61, 0)", "byAll(1, true, 61, 1, 0)", "byAll(1, true, 1, 61, 0)", "byAll(3, true, 1, 1, 11)");
        });
        Says.says(TERMS, "TIMES has no MISERE", () ->
            Run.badAnywhere("board(2, true, 5, 2, 0)", "board(2, true, 0, 1, 0)", "byAll(2, true, 5, 2, 0)", "lostUpTo(2, true, 5)"));
    }

    private static void refusals() {
        Says.says(TERMS, "Refused, changing nothing, the first of: BAD -2 a number is not as told; NO -3 as told.", () -> {
            Due.due(Says.now() + "BAD", BAD, -2);
            Due.due(Says.now() + "NO", NO, -3);
            new Run().refused(-2, "move(3, 1)", "move(3, 0)", "move(-1, -1)").refused(-3, "move(0, 1)", "undo()")
                .then("board(0, false, 4, 9, 0)").refused(-2, "move(2, 0)", "move(-1, 5)").refused(-3, "move(0, 0)", "move(1, 5)", "undo()")
                .then("board(2, false, 9, 2, 0)", "move(0, 4)").refused(-2, "move(1, 99)", "move(-1, 0)").refused(-3, "move(0, 99)", "move(0, 0)")
                .then("board(3, true, 1, 0, 0)", "move(0, 1)").refused(-2, "move(4, 1)", "about(9)", "board(3, true, 11, 0, 0)").refused(-3, "move(3, 1)");
        });
    }
}
