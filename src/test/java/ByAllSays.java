/** Boundary cases of promises 13 to 15: what is gone over by all. */
final class ByAllSays {
    private static final String[] WRONG_GAMES = {"-1", "2", "4", "MIN", "MAX"};

    private ByAllSays() {
    }

    static void all() {
        byAll();
        lostUpTo();
        timesByAll();
    }

    private static void byAll() {
        Says.says("Promise 13", "BY ALL, for heaps up to 60 (GAME 0, 1; c is not looked at), 10 (3)", () -> {
            new Run()
                .due("byAll(0, false, 60, 60, 0)", 1).due("byAll(0, false, 60, 37, 0)", 1).due("byAll(0, false, 60, 38, 0)", 0)
                .due("byAll(1, false, 60, 60, 0)", 1).due("byAll(1, false, 60, 37, 0)", 0).due("byAll(1, false, 37, 60, 0)", 0)
                .due("byAll(1, false, 60, 38, 0)", 1)
                .due("byAll(3, false, 10, 10, 10)", 1).due("byAll(3, false, 10, 10, 0)", 0).due("byAll(3, false, 0, 10, 10)", 0)
                .due(0, "byAll(0, false, 2, 3, -1)", "byAll(0, false, 2, 3, 61)", "byAll(0, true, 2, 3, MIN)", "byAll(0, true, 2, 3, MAX)")
                .due(0, "byAll(1, false, 1, 2, -1)", "byAll(1, false, 1, 2, 61)", "byAll(1, true, 2, 2, MIN)", "byAll(1, true, 2, 2, MAX)");
            for (String misere : new String[] {"false", "true"}) {
                for (String h : new String[] {"-1", "61", "MIN", "MAX"}) {
                    Run.badAnywhere("byAll(0, " + misere + ", " + h + ", 1, 1)", "byAll(0, " + misere + ", 1, " + h + ", 1)",
                        "byAll(1, " + misere + ", " + h + ", 1, 1)", "byAll(1, " + misere + ", 1, " + h + ", 1)");
                }
                for (String h : new String[] {"-1", "11", "MIN", "MAX"}) {
                    Run.badAnywhere("byAll(3, " + misere + ", " + h + ", 1, 1)", "byAll(3, " + misere + ", 1, " + h + ", 1)",
                        "byAll(3, " + misere + ", 1, 1, " + h + ")");
                }
            }
        });
        Says.says("Promise 13", "whether it is WON: 1, 0.", () -> new Run()
            .due(0, "byAll(0, false, 0, 0, 0)", "byAll(0, true, 1, 1, 0)", "byAll(0, true, 60, 60, 0)", "byAll(0, true, 2, 3, 0)")
            .due(1, "byAll(0, false, 1, 1, 0)", "byAll(0, true, 0, 0, 0)", "byAll(0, true, 0, 60, 0)", "byAll(0, true, 1, 2, 0)")
            .due(0, "byAll(1, false, 0, 0, 0)", "byAll(1, true, 0, 1, 0)", "byAll(1, true, 2, 2, 0)", "byAll(1, true, 60, 37, 0)")
            .due(1, "byAll(1, false, 0, 1, 0)", "byAll(1, true, 0, 0, 0)", "byAll(1, true, 1, 2, 0)", "byAll(1, true, 60, 60, 0)")
            .due(0, "byAll(3, false, 0, 0, 0)", "byAll(3, false, 0, 1, 1)", "byAll(3, true, 0, 0, 1)", "byAll(3, true, 1, 1, 1)", "byAll(3, true, 1, 2, 3)")
            .due(1, "byAll(3, false, 0, 0, 1)", "byAll(3, false, 1, 1, 1)", "byAll(3, true, 0, 0, 0)", "byAll(3, true, 0, 1, 1)",
                "byAll(3, true, 10, 10, 10)"));
        Says.says("Promise 13", "BAD: also GAME 2.", () -> {
            for (String game : WRONG_GAMES) {
                Run.badAnywhere("byAll(" + game + ", false, 1, 1, 1)", "byAll(" + game + ", true, 1, 1, 1)", "byAll(" + game + ", false, 0, 0, 0)");
            }
        });
    }

    private static void lostUpTo() {
        Says.says("Promise 14", "How many PLACES with no heap above m (1 .. 60; of THREE 1 .. 10) are LOST", () -> {
            counts(0, false, 60, 3, 5, 9, 1413, 1459);
            counts(0, true, 60, 1, 2, 5, 1353, 1398);
            counts(1, false, 60, 1, 3, 3, 45, 47);
            counts(1, true, 60, 2, 3, 3, 45, 47);
            counts(3, false, 10, 4, 7, 16, 76, 91);
            counts(3, true, 10, 4, 7, 16, 76, 91);
            for (String misere : new String[] {"false", "true"}) {
                for (String m : new String[] {"0", "-1", "61", "62", "MIN", "MAX"}) {
                    Run.badAnywhere("lostUpTo(0, " + misere + ", " + m + ")", "lostUpTo(1, " + misere + ", " + m + ")",
                        "lostUpTo(3, " + misere + ", " + m + ")");
                }
                Run.badAnywhere("lostUpTo(3, " + misere + ", 11)", "lostUpTo(3, " + misere + ", 60)");
            }
        });
        // The same place in another order counts again: 1, 2 and 2, 1; 0, 1, 1 and 1, 0, 1 and 1, 1, 0.
        Says.says("Promise 14", "each order of heaps by itself", () -> new Run()
            .due("lostUpTo(1, false, 2)", 3).due("lostUpTo(1, true, 1)", 2).due("lostUpTo(0, false, 1)", 3).due("lostUpTo(3, false, 1)", 4));
        Says.says("Promise 14", "BAD.", () -> {
            for (String game : WRONG_GAMES) {
                Run.badAnywhere("lostUpTo(" + game + ", false, 1)", "lostUpTo(" + game + ", true, 1)", "lostUpTo(" + game + ", false, 10)",
                    "lostUpTo(" + game + ", false, -1)", "lostUpTo(" + game + ", false, 0)");
            }
        });
    }

    /** The counts of m = 1, 2, 3, most - 1 and most. */
    private static void counts(int game, boolean misere, int most, long... wants) {
        int[] ms = {1, 2, 3, most - 1, most};
        Run run = new Run();
        for (int i = 0; i < ms.length; i++) run.due("lostUpTo(" + game + ", " + misere + ", " + ms[i] + ")", wants[i]);
    }

    private static void timesByAll() {
        Says.says("Promise 15", "BY ALL for TIMES, n up to 60, b up to 60", () -> {
            new Run().due("timesByAll(2, 60, 60)", 1).due("timesByAll(2, 60, 0)", 0).due("timesByAll(2, 0, 60)", 0).due("timesByAll(2, 0, 0)", 0)
                .due("timesByAll(1, 60, 3)", 0).due("timesByAll(1, 60, 4)", 1).due("timesByAll(2, 55, 54)", 0).due("timesByAll(2, 55, 55)", 1);
            for (String h : new String[] {"-1", "61", "MIN", "MAX"}) {
                Run.badAnywhere("timesByAll(2, " + h + ", 1)", "timesByAll(2, 1, " + h + ")", "timesByAll(2, " + h + ", 0)", "timesByAll(2, 0, " + h + ")");
            }
        });
        Says.says("Promise 15", "1, 0.", () -> new Run()
            .due(1, "timesByAll(1, 1, 1)", "timesByAll(9, 1, 60)", "timesByAll(9, 11, 1)", "timesByAll(3, 4, 4)", "timesByAll(1, 3, 1)")
            .due(0, "timesByAll(1, 2, 1)", "timesByAll(9, 10, 9)", "timesByAll(3, 4, 3)", "timesByAll(1, 32, 31)", "timesByAll(9, 0, 60)"));
        Says.says("Promise 15", "BAD.", () -> {
            for (String t : new String[] {"0", "10", "-1", "MIN", "MAX"}) Run.badAnywhere("timesByAll(" + t + ", 1, 1)", "timesByAll(" + t + ", 0, 0)");
        });
    }
}
