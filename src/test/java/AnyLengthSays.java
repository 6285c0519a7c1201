/** Boundary cases of promises 2 to 12: what is told for any length. */
final class AnyLengthSays {
    private static final int NONE = GoldHeaps.NONE;
    private static final String[] WRONG_HEAPS = {"-1", "ABOVE", "MIN", "MAX"};
    private static final String[] WRONG_WHATS = {"-1", "2", "MIN", "MAX"};
    private static final String[] WRONG_TIMES = {"0", "10", "-1", "MIN", "MAX"};

    private AnyLengthSays() {
    }

    static void all() {
        shares();
        both();
        lostOnes();
        rows();
        times();
    }

    private static void shares() {
        Says.says("Promise 2", "Whether SHARES at a, b is WON: 1, 0 (LOST).", () -> new Run()
            .due(0, "shares(0, 0)", "shares(0, MOST)", "shares(MOST, 0)", "shares(2, 3)", "shares(3, 2)", "shares(MOST, 618033988750)")
            .due(1, "shares(1, 1)", "shares(MOST, MOST)", "shares(1, MOST)", "shares(1, 2)", "shares(3, 5)", "shares(MOST, 618033988749)"));
        Says.says("Promise 2", "BAD.", () -> {
            for (String h : WRONG_HEAPS) {
                Run.badAnywhere("shares(" + h + ", 1)", "shares(1, " + h + ")", "shares(0, " + h + ")", "shares(" + h + ", " + h + ")");
            }
        });
        Says.says("Promise 3", "How many times the lesser heap a winning move of SHARES takes: the least.", () -> new Run()
            .due("sharesMove(5, 5)", 1).due("sharesMove(MOST, MOST)", 1).due("sharesMove(10, 5)", 2).due("sharesMove(9, 5)", 1).due("sharesMove(5, 9)", 1)
            .due("sharesMove(23, 5)", 3).due("sharesMove(24, 5)", 4).due("sharesMove(5, 24)", 4)
            .due("sharesMove(MOST, 1)", Due.GREATEST).due("sharesMove(1, MOST)", Due.GREATEST).due("sharesMove(2, MOST)", 500000000000L)
            .due("sharesMove(MOST, 3)", 333333333332L).due("sharesMove(MOST, 618033988749)", 1));
        Says.says("Promise 3", "0: none is.", () -> new Run()
            .due(0, "sharesMove(0, 0)", "sharesMove(0, 1)", "sharesMove(1, 0)", "sharesMove(MOST, 0)", "sharesMove(0, MOST)")
            .due(0, "sharesMove(8, 5)", "sharesMove(5, 8)", "sharesMove(MOST, 618033988750)", "sharesMove(999999999999, MOST)"));
        Says.says("Promise 3", "BAD.", () -> {
            for (String h : WRONG_HEAPS) {
                Run.badAnywhere("sharesMove(" + h + ", 1)", "sharesMove(1, " + h + ")", "sharesMove(0, " + h + ")", "sharesMove(" + h + ", 0)");
            }
        });
    }

    private static void both() {
        Says.says("Promise 4", "Whether BOTH at a, b is WON: 1, 0.", () -> new Run()
            .due(0, "both(0, 0)", "both(1, 2)", "both(2, 1)", "both(3, 5)", "both(485410196624, 785410196624)", "both(618033988748, 999999999997)")
            .due(1, "both(0, 1)", "both(1, 0)", "both(1, 1)", "both(2, 2)", "both(MOST, MOST)", "both(0, MOST)", "both(MOST, 0)")
            .due(1, "both(485410196623, 785410196624)", "both(485410196625, 785410196624)", "both(785410196624, 485410196623)")
            .due(0, "both(381966011248, 618033988747)", "both(999999999999, 618033988749)"));
        Says.says("Promise 4", "BAD.", () -> {
            for (String h : WRONG_HEAPS) Run.badAnywhere("both(" + h + ", 1)", "both(1, " + h + ")", "both(" + h + ", " + h + ")");
        });
        // At 7, 5 one move of each kind wins; at 7, 6 one from b and one from both.
        Says.says("Promise 5", "A winning move of BOTH: of those from a alone the least taken, else from b alone, else from both", () -> new Run()
            .due("bothMove(7, 5, 0)", 0).due("bothMove(7, 5, 1)", 4).due("bothMove(5, 7, 0)", 0).due("bothMove(5, 7, 1)", 1)
            .due("bothMove(7, 6, 0)", 1).due("bothMove(7, 6, 1)", 2).due("bothMove(6, 7, 0)", 0).due("bothMove(6, 7, 1)", 2)
            .due("bothMove(4, 6, 0)", 2).due("bothMove(4, 6, 1)", 1).due("bothMove(6, 4, 0)", 2).due("bothMove(6, 4, 1)", 1)
            .due("bothMove(7, 3, 0)", 0).due("bothMove(7, 3, 1)", 2).due("bothMove(3, 7, 0)", 1).due("bothMove(3, 7, 1)", 2));
        Says.says("Promise 5", "0 which (0 a, 1 b, 2 both; NONE: none is)", () -> new Run()
            .due(0, "bothMove(1, 0, 0)", "bothMove(MOST, 0, 0)", "bothMove(MOST, 1, 0)")
            .due(1, "bothMove(0, 1, 0)", "bothMove(0, MOST, 0)", "bothMove(1, MOST, 0)")
            .due(2, "bothMove(1, 1, 0)", "bothMove(MOST, MOST, 0)", "bothMove(3, 4, 0)")
            .due(NONE, "bothMove(0, 0, 0)", "bothMove(1, 2, 0)", "bothMove(2, 1, 0)", "bothMove(485410196624, 785410196624, 0)")
            .due(NONE, "bothMove(999999999999, 618033988749, 0)"));
        Says.says("Promise 5", "1 how many (0: none).", () -> new Run()
            .due(1, "bothMove(1, 0, 1)", "bothMove(0, 1, 1)", "bothMove(1, 1, 1)")
            .due(2, "bothMove(3, 4, 1)", "bothMove(4, 3, 1)")
            .due(Due.GREATEST, "bothMove(MOST, 0, 1)", "bothMove(0, MOST, 1)", "bothMove(MOST, MOST, 1)")
            .due(999999999998L, "bothMove(MOST, 1, 1)", "bothMove(1, MOST, 1)")
            .due(0, "bothMove(0, 0, 1)", "bothMove(1, 2, 1)", "bothMove(2, 1, 1)", "bothMove(485410196624, 785410196624, 1)"));
        Says.says("Promise 5", "BAD.", () -> {
            for (String h : WRONG_HEAPS) {
                Run.badAnywhere("bothMove(" + h + ", 1, 0)", "bothMove(" + h + ", 1, 1)", "bothMove(1, " + h + ", 0)", "bothMove(1, " + h + ", 1)");
            }
            for (String what : WRONG_WHATS) Run.badAnywhere("bothMove(4, 6, " + what + ")", "bothMove(0, 0, " + what + ")");
        });
    }

    private static void lostOnes() {
        Says.says("Promise 6", "The k-th LOST of BOTH (k 0 .. 300000000000)", () -> {
            new Run().due("lost(0, 0)", 0).due("lost(0, 1)", 0).due("lost(1, 0)", 1).due("lost(1, 1)", 2)
                .due("lost(300000000000, 0)", 485410196624L).due("lost(300000000000, 1)", 785410196624L);
            for (String k : new String[] {"-1", "300000000001", "MOST", "MIN", "MAX"}) Run.badAnywhere("lost(" + k + ", 0)", "lost(" + k + ", 1)");
        });
        Says.says("Promise 6", "the lesser heap (what = 0), the greater (1).", () -> new Run()
            .due("lost(4, 0)", 6).due("lost(4, 1)", 10).due("lost(299999999999, 0)", 485410196623L).due("lost(299999999999, 1)", 785410196622L));
        Says.says("Promise 6", "BAD.", () -> {
            for (String what : WRONG_WHATS) Run.badAnywhere("lost(0, " + what + ")", "lost(5, " + what + ")", "lost(300000000000, " + what + ")");
        });
        Says.says("Promise 7", "(each h is in just one; 0 in the 0-th)", () -> {
            long[] ks = {0, 1, 1, 2, 3, 2, 4, 3, 5, 6, 4, 7, 8, 5};
            Run run = new Run();
            for (int h = 0; h < ks.length; h++) run.due("lostOf(" + h + ", 0)", ks[h]);
            run.due("lostOf(MOST, 0)", 618033988750L).due("lostOf(999999999999, 0)", 381966011250L).due("lostOf(999999999998, 0)", 618033988749L);
            run.due("lostOf(485410196624, 0)", 300000000000L).due("lostOf(785410196624, 0)", 300000000000L);
        });
        Says.says("Promise 7", "0 the k, 1 whether h is the lesser heap (1; also of 0).", () -> new Run()
            .due(1, "lostOf(0, 1)", "lostOf(1, 1)", "lostOf(3, 1)", "lostOf(4, 1)", "lostOf(MOST, 1)", "lostOf(485410196624, 1)")
            .due(0, "lostOf(2, 1)", "lostOf(5, 1)", "lostOf(7, 1)", "lostOf(999999999999, 1)", "lostOf(785410196624, 1)"));
        Says.says("Promise 7", "BAD.", () -> {
            for (String h : WRONG_HEAPS) Run.badAnywhere("lostOf(" + h + ", 0)", "lostOf(" + h + ", 1)");
            for (String what : WRONG_WHATS) Run.badAnywhere("lostOf(0, " + what + ")", "lostOf(5, " + what + ")");
        });
    }

    private static void rows() {
        Says.says("Promise 8", "Number i of THE ROW for t (0 on).", () -> {
            for (int t = 1; t <= 9; t++) new Run().due("row(" + t + ", 0)", 1).due("row(" + t + ", 1)", 2).due("row(" + t + ", 2)", t == 1 ? 4 : 3);
            new Run().due("row(9, 9)", 10).due("row(9, 10)", 12);
        });
        Says.says("Promise 8", "NONE: above 1000000000000.", () -> {
            int[] sizes = {40, 58, 85, 108, 129, 157, 184, 209, 233};
            long[] greatest = {549755813888L, 956722026041L, 909338779533L, 906673650050L, 888804409347L, 856633746443L, 904685773673L, 930702301608L,
                905643621028L};
            for (int t = 1; t <= 9; t++) {
                Run run = new Run().due("row(" + t + ", " + (sizes[t - 1] - 1) + ")", greatest[t - 1]);
                for (String i : new String[] {"" + sizes[t - 1], "" + (sizes[t - 1] + 1), "239", "240", "241", "1000", "MAX"}) {
                    run.due("row(" + t + ", " + i + ")", NONE);
                }
            }
        });
        Says.says("Promise 8", "BAD.", () -> {
            for (String t : WRONG_TIMES) Run.badAnywhere("row(" + t + ", 0)", "row(" + t + ", 5)", "row(" + t + ", MAX)");
            for (String i : new String[] {"-1", "-2", "MIN"}) Run.badAnywhere("row(1, " + i + ")", "row(9, " + i + ")");
        });
        Says.says("Promise 9", "How many numbers a heap is a sum of by THE ROW (0 of 0).", () -> {
            int[] ofMost = {13, 15, 14, 13, 10, 12, 11, 9, 10};
            for (int t = 1; t <= 9; t++) {
                new Run().due("digits(" + t + ", 0)", 0).due("digits(" + t + ", 1)", 1).due("digits(" + t + ", 2)", 1)
                    .due("digits(" + t + ", 3)", t == 1 ? 2 : 1).due("digits(" + t + ", MOST)", ofMost[t - 1]);
            }
        });
        Says.says("Promise 9", "BAD.", () -> {
            for (String t : WRONG_TIMES) Run.badAnywhere("digits(" + t + ", 0)", "digits(" + t + ", 5)");
            for (String n : WRONG_HEAPS) Run.badAnywhere("digits(1, " + n + ")", "digits(9, " + n + ")");
        });
        Says.says("Promise 10", "The LAST of a heap of 1 or more.", () -> {
            long[] ofMost = {4096, 3, 1, 2, 8, 2, 1, 3, 5};
            for (int t = 1; t <= 9; t++) {
                new Run().due("last(" + t + ", 1)", 1).due("last(" + t + ", 2)", 2).due("last(" + t + ", MOST)", ofMost[t - 1])
                    .refused(GoldHeaps.BAD, "last(" + t + ", 0)");
            }
            Run.badAnywhere("last(2, 0)");
        });
        Says.says("Promise 10", "BAD.", () -> {
            for (String t : WRONG_TIMES) Run.badAnywhere("last(" + t + ", 1)", "last(" + t + ", 0)");
            for (String n : WRONG_HEAPS) Run.badAnywhere("last(1, " + n + ")", "last(9, " + n + ")");
        });
    }

    private static void times() {
        Says.says("Promise 11", "Whether TIMES t at n, b is WON: 1, 0.", () -> new Run()
            .due(0, "times(1, 0, 0)", "times(9, 0, MOST)", "times(9, MOST, 0)", "times(2, 21, 20)", "times(3, 4, 3)", "times(9, 10, 9)", "times(9, MOST, 4)")
            .due(1, "times(1, 1, 1)", "times(9, 1, MOST)", "times(2, 21, 21)", "times(3, 4, 4)", "times(9, 11, 1)", "times(9, MOST, 5)",
                "times(1, MOST, MOST)"));
        Says.says("Promise 11", "BAD.", () -> badTimes("times"));
        Says.says("Promise 12", "The least that a winning move of TIMES takes", () -> new Run()
            .due("timesMove(2, 12, 11)", 1).due("timesMove(2, 12, 1)", 1).due("timesMove(2, 11, 3)", 3).due("timesMove(2, 13, 13)", 13)
            .due("timesMove(2, 13, MOST)", 13).due("timesMove(1, 12, 12)", 4).due("timesMove(1, 12, 4)", 4).due("timesMove(1, MOST, MOST)", 4096)
            .due("timesMove(9, MOST, 5)", 5).due("timesMove(1, 549755813888, MOST)", 549755813888L).due("timesMove(1, 1, 1)", 1));
        Says.says("Promise 12", "0: none is.", () -> new Run()
            .due(0, "timesMove(1, 0, 0)", "timesMove(9, 0, MOST)", "timesMove(1, 1, 0)", "timesMove(9, MOST, 0)")
            .due(0, "timesMove(2, 11, 2)", "timesMove(2, 13, 12)", "timesMove(1, 12, 3)", "timesMove(1, MOST, 4095)", "timesMove(9, MOST, 4)"));
        Says.says("Promise 12", "BAD.", () -> badTimes("timesMove"));
    }

    private static void badTimes(String name) {
        for (String t : WRONG_TIMES) Run.badAnywhere(name + "(" + t + ", 1, 1)", name + "(" + t + ", 0, 0)");
        for (String h : WRONG_HEAPS) {
            Run.badAnywhere(name + "(2, " + h + ", 1)", name + "(2, 1, " + h + ")", name + "(2, " + h + ", 0)", name + "(2, 0, " + h + ")");
        }
    }
}
