import java.math.BigInteger;

/** Boundary cases of promises 1 and 16 to 20: the BOARD. */
final class BoardSays {
    private static final int BAD = GoldHeaps.BAD, NO = GoldHeaps.NO;
    private static final long MOST = Due.GREATEST;

    private BoardSays() {
    }

    static void all() {
        newObject();
        boards();
        moves();
        movesRefused();
        undos();
        abouts();
        digests();
    }

    private static void newObject() {
        Says.says("Promise 1", "A BOARD of BOTH with heaps 0, 0, not MISERE.", () -> {
            new Run().abouts(0, 0, 0, 0, 0, 0, 0, 0, 1);
            new Run().due("digest()", 6001794230472318L);
            new Run().refused(NO, "undo()", "move(0, 1)", "move(1, 1)", "move(2, 1)", "move(0, 0)").refused(BAD, "move(3, 1)", "move(-1, 1)");
        });
    }

    private static void boards() {
        Says.says("Promise 16", "A BOARD: heaps (of TIMES: n, t; c not looked at but by THREE): 1.", () -> {
            new Run().due("board(0, false, MOST, 618033988750, 0)", 1).abouts(MOST, 618033988750L, 0, 0, 0, 0, 0, 0, 0)
                .due("board(1, false, 0, MOST, 0)", 1).abouts(0, MOST, 0, 0, 0, 1, 0, 0, 1)
                .due("board(2, false, MOST, 9, 0)", 1).abouts(MOST, 0, 0, MOST - 1, 0, 1, 0, 0, 2)
                .due("board(3, false, 10, 0, 9)", 1).abouts(10, 0, 9, 0, 0, 1, 0, 0, 3)
                .due("board(0, true, 0, 60, 0)", 1).abouts(0, 60, 0, 0, 0, 1, 0, 0, 0)
                .due("board(1, true, 2, 2, 0)", 1).abouts(2, 2, 0, 0, 0, 0, 0, 0, 1)
                .due("board(3, true, 1, 1, 1)", 1).abouts(1, 1, 1, 0, 0, 0, 0, 0, 3);
            // Another BOARD has none of the moves, the bound or the third heap of the one ahead of it.
            new Run().then("board(2, false, 40, 3, 0)", "move(0, 7)", "move(0, 5)").due("about(7)", 1)
                .due("board(2, false, 40, 5, 0)", 1).abouts(40, 0, 0, 39, 0, 1, 0, 0, 2).refused(NO, "undo()").due("move(0, 2)", 1).due("about(3)", 10)
                .due("board(3, true, 5, 6, 7)", 1).abouts(5, 6, 7, 0, 0, 1, 0, 0, 3).then("move(2, 1)")
                .due("board(1, false, 3, 3, 0)", 1).abouts(3, 3, 0, 0, 0, 1, 0, 0, 1).refused(NO, "undo()").refused(BAD, "move(3, 1)");
        });
        Says.says("Promise 16", "c not looked at but by THREE", () -> {
            for (String c : new String[] {"-1", "11", "61", "ABOVE", "MIN", "MAX"}) {
                new Run().due("board(0, false, 5, 3, " + c + ")", 1).abouts(5, 3, 0, 0, 0, 1, 0, 0, 0)
                    .due("board(0, true, 5, 3, " + c + ")", 1).due("about(2)", 0)
                    .due("board(1, false, 4, 7, " + c + ")", 1).abouts(4, 7, 0, 0, 0, 0, 0, 0, 1)
                    .due("board(1, true, 4, 7, " + c + ")", 1).due("about(2)", 0)
                    .due("board(2, false, 5, 3, " + c + ")", 1).abouts(5, 0, 0, 4, 0, 1, 0, 0, 2)
                    .refused(BAD, "board(3, false, 5, 3, " + c + ")", "board(3, true, 5, 3, " + c + ")");
            }
        });
        Says.says("Promise 16", "also MISERE TIMES", () ->
            Run.badAnywhere("board(2, true, 5, 2, 0)", "board(2, true, 1, 1, 1)", "board(2, true, 0, 9, 0)"));
        Says.says("Promise 16", "MISERE heaps above 60.", () ->
            Run.badAnywhere("board(0, true, 61, 0, 0)", "board(0, true, 0, 61, 0)", "board(1, true, 61, 0, 0)", "board(1, true, 0, 61, 0)",
                "board(0, true, MOST, 0, 0)", "board(1, true, 0, MOST, 0)", "board(3, true, 61, 0, 0)", "board(3, true, 0, 0, 61)"));
        Says.says("Promise 16", "BAD:", () -> {
            for (String misere : new String[] {"false", "true"}) {
                for (String game : new String[] {"-1", "4", "5", "MIN", "MAX"}) Run.badAnywhere("board(" + game + ", " + misere + ", 1, 1, 1)");
                for (String h : new String[] {"-1", "ABOVE", "MIN", "MAX"}) {
                    Run.badAnywhere("board(0, " + misere + ", " + h + ", 1, 1)", "board(0, " + misere + ", 1, " + h + ", 1)",
                        "board(1, " + misere + ", " + h + ", 1, 1)", "board(1, " + misere + ", 1, " + h + ", 1)",
                        "board(2, " + misere + ", " + h + ", 1, 1)", "board(2, " + misere + ", 1, " + h + ", 1)",
                        "board(3, " + misere + ", " + h + ", 1, 1)", "board(3, " + misere + ", 1, " + h + ", 1)", "board(3, " + misere + ", 1, 1, " + h + ")");
                }
            }
            Run.badAnywhere("board(2, false, 5, 0, 1)", "board(2, false, 5, 10, 1)");
        });
    }

    private static void moves() {
        Says.says("Promise 17", "A move: which heap (SHARES: the greater one, or any of two alike; "
            + "BOTH: 2 both; TIMES: 0; THREE: 3 all), how many are taken", () -> new Run()
            .then("board(0, false, 9, 4, 0)").due("move(0, 8)", 1).abouts(1, 4, 0, 0, 1, 1, 1, 1, 0).refused(NO, "move(0, 1)").due("move(1, 4)", 2)
            .then("board(0, false, 4, 4, 0)").due("move(0, 4)", 2).then("undo()").due("move(1, 4)", 2)
            .then("board(1, false, 6, 9, 0)").due("move(0, 2)", 1).due("move(1, 3)", 1).due("move(2, 4)", 1).abouts(0, 2, 0, 0, 3, 1, 1, 3, 1)
            .then("board(2, false, 9, 4, 0)").due("move(0, 2)", 1).abouts(7, 0, 0, 8, 1, 1, 1, 0, 2)
            .then("board(3, false, 5, 6, 7)").due("move(0, 1)", 1).due("move(1, 2)", 1).due("move(2, 3)", 1).abouts(4, 4, 4, 0, 3, 1, 1, 3, 3)
            .due("move(3, 3)", 1).abouts(1, 1, 1, 0, 4, 1, 0, 4, 3));
        Says.says("Promise 17", "1 it goes on", () -> new Run()
            .then("board(0, false, 3, 2, 0)").due("move(0, 2)", 1).then("board(1, false, 1, 1, 0)").due("move(0, 1)", 1)
            .then("board(1, false, 0, 2, 0)").due("move(1, 1)", 1).then("board(2, false, 2, 1, 0)").due("move(0, 1)", 1)
            .then("board(3, false, 1, 1, 2)").due("move(3, 1)", 1).then("board(3, true, 0, 1, 1)").due("move(1, 1)", 1));
        Says.says("Promise 17", "2 it was the last (who moved has won, of MISERE lost)", () -> new Run()
            .then("board(0, false, 4, 2, 0)").due("move(0, 4)", 2).due("about(5)", 0).then("board(0, true, 4, 2, 0)").due("move(0, 4)", 2).due("about(5)", 1)
            .then("board(0, false, 1, 1, 0)").due("move(1, 1)", 2).due("about(5)", 0).then("board(0, true, 1, 1, 0)").due("move(1, 1)", 2).due("about(5)", 1)
            .then("board(1, false, 5, 5, 0)").due("move(2, 5)", 2).due("about(5)", 0).then("board(1, true, 5, 5, 0)").due("move(2, 5)", 2).due("about(5)", 1)
            .then("board(1, false, 0, 5, 0)").due("move(1, 5)", 2).due("about(5)", 0).then("board(1, true, 5, 0, 0)").due("move(0, 5)", 2).due("about(5)", 1)
            .then("board(2, false, 2, 1, 0)", "move(0, 1)").due("move(0, 1)", 2).due("about(5)", 0)
            .then("board(3, false, 2, 2, 2)").due("move(3, 2)", 2).due("about(5)", 0).then("board(3, true, 2, 2, 2)").due("move(3, 2)", 2).due("about(5)", 1)
            .then("board(3, false, 0, 0, 2)").due("move(2, 2)", 2).due("about(5)", 0).then("board(3, true, 0, 2, 0)").due("move(1, 2)", 2).due("about(5)", 1));
    }

    private static void movesRefused() {
        Says.says("Promise 17", "BAD: which", () -> new Run()
            .then("board(0, false, 6, 6, 0)").refused(BAD, "move(2, 6)", "move(3, 6)", "move(-1, 6)", "move(MIN, 6)", "move(MAX, 6)")
            .then("board(1, false, 6, 6, 0)").refused(BAD, "move(3, 1)", "move(4, 1)", "move(-1, 1)", "move(MIN, 1)", "move(MAX, 1)")
            .then("board(2, false, 6, 6, 0)").refused(BAD, "move(1, 1)", "move(2, 1)", "move(3, 1)", "move(-1, 1)", "move(MIN, 1)", "move(MAX, 1)")
            .then("board(3, false, 6, 6, 6)").refused(BAD, "move(4, 1)", "move(5, 1)", "move(-1, 1)", "move(MIN, 1)", "move(MAX, 1)")
            // A wrong heap is told ahead of what may not be taken, and of a BOARD that is over.
            .refused(BAD, "move(4, 0)", "move(-1, 99)").then("move(3, 6)").refused(BAD, "move(4, 1)", "move(-1, 1)"));
        Says.says("Promise 17", "NO: it may not be", () -> new Run()
            .then("board(0, false, 10, 4, 0)").refused(NO, "move(0, 0)", "move(0, -4)", "move(0, 3)", "move(0, 5)", "move(0, 12)", "move(1, 4)", "move(1, 1)")
            .refused(NO, "move(0, MIN)", "move(0, MAX)", "move(1, MIN)", "move(1, MAX)")
            .then("board(1, false, 3, 5, 0)", "move(1, 1)").refused(NO, "move(0, 0)", "move(0, -1)", "move(0, 4)", "move(1, 5)", "move(2, 4)", "move(2, 0)")
            .refused(NO, "move(0, MIN)", "move(1, MAX)", "move(2, MIN)", "move(2, MAX)")
            .then("board(2, false, 9, 1, 0)", "move(0, 2)").refused(NO, "move(0, 0)", "move(0, -1)", "move(0, 3)", "move(0, 7)", "move(0, 8)",
                "move(0, MIN)", "move(0, MAX)")
            .then("board(3, false, 1, 2, 3)", "move(2, 1)").refused(NO, "move(0, 2)", "move(1, 3)", "move(2, 3)", "move(3, 2)", "move(3, 0)", "move(3, -1)")
            .refused(NO, "move(0, MIN)", "move(1, MAX)", "move(3, MIN)", "move(3, MAX)")
            // Taking from all needs something in each.
            .then("board(1, false, 0, 4, 0)").refused(NO, "move(2, 1)").then("board(3, false, 4, 4, 0)").refused(NO, "move(3, 1)")
            .then("board(3, false, 0, 4, 4)").refused(NO, "move(3, 1)").then("board(3, false, 4, 0, 4)").refused(NO, "move(3, 1)"));
        Says.says("Promise 17", "the BOARD is over", () -> {
            new Run().then("board(0, false, 8, 4, 0)", "move(0, 8)").refused(NO, "move(0, 4)", "move(1, 4)", "move(0, 0)", "move(1, 0)")
                .due("undo()", 0).due("move(0, 4)", 1);
            new Run().then("board(1, true, 4, 4, 0)", "move(2, 4)").refused(NO, "move(0, 1)", "move(1, 1)", "move(2, 1)").due("undo()", 0).due("move(2, 3)", 1);
            new Run().then("board(2, false, 4, 9, 0)", "move(0, 2)", "move(0, 2)").refused(NO, "move(0, 1)", "move(0, 0)").due("undo()", 1)
                .due("move(0, 1)", 1);
            new Run().then("board(3, true, 4, 4, 4)", "move(3, 4)").refused(NO, "move(0, 1)", "move(1, 1)", "move(2, 1)", "move(3, 1)")
                .due("undo()", 0).due("move(3, 3)", 1);
            // Over from the first.
            new Run().then("board(0, false, 4, 0, 0)").refused(NO, "move(0, 4)", "move(1, 4)", "undo()");
            new Run().then("board(1, false, 0, 0, 0)").refused(NO, "move(0, 1)", "move(2, 1)", "undo()");
            new Run().then("board(2, false, 1, 9, 0)").refused(NO, "move(0, 1)", "undo()");
            new Run().then("board(2, false, 0, 9, 0)").refused(NO, "move(0, 1)", "undo()");
            new Run().then("board(3, false, 0, 0, 0)").refused(NO, "move(0, 1)", "move(3, 1)", "undo()");
        });
        Says.says("Promise 17", "or 200 moves were made.", () -> {
            fullBoard("board(0, false, 300, 1, 0)", "move(2, 1)");
            fullBoard("board(1, false, 300, 5, 0)", "move(3, 1)");
            fullBoard("board(2, false, 300, 1, 0)", "move(1, 1)");
            // The 200th move may be the last.
            Run run = new Run().then("board(1, false, 200, 0, 0)");
            for (int i = 1; i < 200; i++) run.due("move(0, 1)", 1);
            run.due("move(0, 1)", 2).due("about(4)", 200).refused(NO, "move(0, 1)");
        });
    }

    /** 200 moves of 1 from the first heap may be made and no more, until one is taken back or a BOARD is made. */
    private static void fullBoard(String board, String wrongWhich) {
        Run run = new Run().due(board, 1);
        for (int i = 1; i <= 200; i++) run.due("move(0, 1)", 1);
        run.due("about(4)", 200).due("about(0)", 100).refused(NO, "move(0, 1)", "move(0, 0)").refused(BAD, wrongWhich);
        run.due("undo()", 199).due("about(0)", 101).due("move(0, 1)", 1).due("about(4)", 200).refused(NO, "move(0, 1)");
        run.due(board, 1).due("about(4)", 0).due("move(0, 1)", 1);
    }

    private static void undos() {
        Says.says("Promise 18", "The last move is taken back: how many there were ahead of it.", () -> {
            new Run().then("board(0, false, 20, 6, 0)", "move(0, 12)", "move(0, 6)").abouts(2, 6, 0, 0, 2, 1, 0, 0, 0)
                .due("undo()", 1).abouts(8, 6, 0, 0, 1, 0, 1, 0, 0).due("undo()", 0).abouts(20, 6, 0, 0, 0, 1, 0, 0, 0);
            new Run().then("board(1, false, 5, 7, 0)", "move(2, 5)", "move(1, 2)").abouts(0, 0, 0, 0, 2, 0, 0, 1, 1)
                .due("undo()", 1).abouts(0, 2, 0, 0, 1, 1, 1, 1, 1).due("undo()", 0).abouts(5, 7, 0, 0, 0, 1, 0, 0, 1);
            new Run().then("board(2, false, MOST, 9, 0)", "move(0, 999999999999)", "move(0, 1)").abouts(0, 0, 0, 9, 2, 0, 0, 1, 2)
                .due("undo()", 1).abouts(1, 0, 0, MOST, 1, 1, 1, 1, 2).due("undo()", 0).abouts(MOST, 0, 0, MOST - 1, 0, 1, 0, 0, 2);
            new Run().then("board(3, true, 3, 3, 3)", "move(3, 2)", "move(1, 1)", "move(0, 1)", "move(2, 1)").abouts(0, 0, 0, 0, 4, 1, 0, 0, 3)
                .due("undo()", 3).due("about(2)", 1).due("undo()", 2).due("about(0)", 1).due("undo()", 1).abouts(1, 1, 1, 0, 1, 0, 1, 0, 3)
                .due("undo()", 0).abouts(3, 3, 3, 0, 0, 1, 0, 0, 3);
        });
        Says.says("Promise 18", "NO: none was made.", () -> new Run().refused(NO, "undo()")
            .then("board(1, false, 5, 7, 0)").refused(NO, "undo()").then("move(0, 1)").due("undo()", 0).refused(NO, "undo()").due("undo()", NO)
            .due("undo()", NO)
            .abouts(5, 7, 0, 0, 0, 1, 0, 0, 1).then("move(0, 1)", "move(1, 1)", "board(2, false, 9, 2, 0)").refused(NO, "undo()"));
    }

    private static void abouts() {
        Says.says("Promise 19", "Of the BOARD: 0 .. 2 heaps (0 of those that are not)", () -> new Run()
            .then("board(0, false, 7, MOST, 5)").due("about(0)", 7).due("about(1)", MOST).due("about(2)", 0)
            .then("board(1, false, MOST, 8, 5)").due("about(0)", MOST).due("about(1)", 8).due("about(2)", 0)
            .then("board(2, false, 7, 8, 5)").due("about(0)", 7).due("about(1)", 0).due("about(2)", 0)
            .then("board(3, false, 7, 8, 9)").due("about(0)", 7).due("about(1)", 8).due("about(2)", 9)
            .then("board(2, false, 6, 5, 4)").due("about(0)", 6).due("about(1)", 0).due("about(2)", 0));
        Says.says("Promise 19", "3 the bound of TIMES (0)", () -> new Run()
            .due("about(3)", 0).then("board(2, false, 9, 4, 0)").due("about(3)", 8).then("move(0, 2)").due("about(3)", 8).then("move(0, 1)").due("about(3)", 4)
            .then("board(0, false, 9, 4, 0)").due("about(3)", 0).then("move(0, 4)").due("about(3)", 0)
            .then("board(1, false, 9, 4, 0)").due("about(3)", 0).then("move(0, 4)").due("about(3)", 0)
            .then("board(3, false, 9, 4, 5)").due("about(3)", 0).then("move(0, 4)").due("about(3)", 0));
        Says.says("Promise 19", "4 moves made", () -> new Run()
            .due("about(4)", 0).then("board(1, false, 9, 9, 0)").due("about(4)", 0).then("move(0, 1)").due("about(4)", 1).then("move(2, 1)").due("about(4)", 2)
            .then("move(0, 99)").due("about(4)", 2).then("undo()").due("about(4)", 1).then("board(1, false, 9, 9, 0)").due("about(4)", 0));
        Says.says("Promise 19", "5 whether the PLACE is WON (1, 0)", () -> new Run()
            .then("board(0, false, MOST, 618033988749, 0)").due("about(5)", 1).then("board(0, false, MOST, 618033988750, 0)").due("about(5)", 0)
            .then("board(0, true, 60, 60, 0)").due("about(5)", 0).then("board(0, true, 60, 37, 0)").due("about(5)", 1)
            .then("board(1, false, 618033988749, 999999999999, 0)").due("about(5)", 0).then("board(1, false, 618033988749, MOST, 0)").due("about(5)", 1)
            .then("board(1, true, 60, 37, 0)").due("about(5)", 0).then("board(1, true, 2, 1, 0)").due("about(5)", 1)
            .then("board(2, false, 956722026041, 2, 0)").due("about(5)", 0).then("board(2, false, 956722026042, 2, 0)").due("about(5)", 1)
            .then("board(3, false, 10, 10, 0)").due("about(5)", 0).then("board(3, false, 10, 10, 10)").due("about(5)", 1)
            .then("board(3, true, 0, 0, 1)").due("about(5)", 0).then("board(3, true, 0, 1, 1)").due("about(5)", 1));
        Says.says("Promise 19", "6 who is to move (0, 1)", () -> new Run()
            .due("about(6)", 0).then("board(1, false, 3, 3, 0)").due("about(6)", 0).then("move(0, 1)").due("about(6)", 1).then("move(0, 1)").due("about(6)", 0)
            .then("move(0, 1)").due("about(6)", 1).then("undo()").due("about(6)", 0).then("move(0, 99)").due("about(6)", 0)
            .then("move(0, 1)", "board(1, false, 3, 3, 0)").due("about(6)", 0));
        Says.says("Promise 19", "7 how many moves were made from WON to WON (faults)", () -> {
            // LOST to WON and WON to LOST are none; WON to WON is one, and is none when it is taken back.
            new Run().then("board(1, false, 3, 5, 0)", "move(0, 1)").due("about(7)", 0).then("move(1, 4)").due("about(7)", 0)
                .then("undo()", "move(1, 1)").due("about(7)", 1).then("move(0, 2)").due("about(7)", 2).then("move(1, 99)").due("about(7)", 2)
                .then("undo()").due("about(7)", 1).then("undo()").due("about(7)", 0).then("move(1, 1)").due("about(7)", 1)
                .then("board(1, false, 3, 5, 0)").due("about(7)", 0);
            new Run().then("board(0, false, 9, 4, 0)", "move(0, 8)").due("about(7)", 1).then("move(1, 1)").due("about(7)", 2);
            new Run().then("board(2, false, 10, 3, 0)", "move(0, 1)").due("about(7)", 1).then("undo()", "move(0, 2)").due("about(7)", 0);
            new Run().then("board(3, false, 5, 6, 7)", "move(0, 1)").due("about(7)", 1);
            // The end of a MISERE game is WON for who can't move: the last taker's move from WON is a fault, from LOST none.
            new Run().then("board(1, true, 3, 3, 0)", "move(2, 3)").due("about(7)", 1).then("board(1, true, 2, 2, 0)", "move(2, 2)").due("about(7)", 0);
            new Run().then("board(3, true, 2, 2, 2)", "move(3, 2)").due("about(7)", 1).then("board(3, true, 0, 0, 1)", "move(2, 1)").due("about(7)", 0);
            new Run().then("board(0, true, 4, 2, 0)", "move(0, 4)").due("about(7)", 1).then("board(0, true, 4, 4, 0)", "move(0, 4)").due("about(7)", 0);
        });
        Says.says("Promise 19", "8 the GAME.", () -> new Run()
            .due("about(8)", 1).then("board(0, true, 1, 1, 1)").due("about(8)", 0).then("board(1, true, 1, 1, 1)").due("about(8)", 1)
            .then("board(2, false, 1, 1, 1)").due("about(8)", 2).then("board(3, true, 1, 1, 1)").due("about(8)", 3)
            .then("board(4, true, 1, 1, 1)").due("about(8)", 3).then("board(2, true, 1, 1, 1)").due("about(8)", 3));
        Says.says("Promise 19", "BAD: -2.", () -> Run.badAnywhere("about(-1)", "about(9)", "about(10)", "about(MIN)", "about(MAX)"));
    }

    private static void digests() {
        Says.says("Promise 20", "h = 227; then h = 31 h + v for each v: about(0) to about(8).", () -> {
            new Run().due("digest()", digest(0, 0, 0, 0, 0, 0, 0, 0, 1)).due("digest()", 6001794230472318L);
            new Run().then("board(3, true, 10, 9, 8)", "move(3, 2)", "move(0, 3)").due("digest()", digest(5, 7, 6, 0, 2, 1, 0, 2, 3));
            // Great heaps wrap around.
            new Run().then("board(0, false, MOST, MOST, 0)").due("digest()", digest(MOST, MOST, 0, 0, 0, 1, 0, 0, 0));
            new Run().then("board(1, false, 0, MOST, 0)").due("digest()", digest(0, MOST, 0, 0, 0, 1, 0, 0, 1));
            new Run().then("board(2, false, MOST, 9, 0)", "move(0, 1)").due("digest()", digest(MOST - 1, 0, 0, 9, 1, 1, 1, 1, 2));
        });
    }

    /** Without a wrap on the way: what is due is the low 64 bits of the true number. */
    private static long digest(long... abouts) {
        BigInteger h = BigInteger.valueOf(227);
        for (long v : abouts) h = h.multiply(BigInteger.valueOf(31)).add(BigInteger.valueOf(v));
        return h.longValue();
    }
}
