import java.io.IOException;
import java.io.UncheckedIOException;
import java.nio.file.Files;
import java.nio.file.Path;
import java.util.List;
import java.util.Set;
import java.util.TreeSet;

/** What the first sections, and the last, say that names no boundary case: the games, who wins, what stands ahead of the calls. */
final class GamesSay {
    private static final int NO = GoldHeaps.NO;
    private static final int SHARES = 0, BOTH = 1, TIMES = 2, THREE = 3;
    private static final String WHAT = "What it is", TERMS = "Terms";
    private static final Path SOURCE = Path.of("src/main/java/GoldHeaps.java");

    private GamesSay() {
    }

    static void all() {
        whatIsTold();
        plays();
        places();
        boards();
        asking();
        interfaceSays("`shares`, `sharesMove`, `both`, `bothMove`, `lost`, `lostOf`, `row`, `digits`, `last`, `times`, `timesMove`",
            "---- told for any length");
        interfaceSays("`byAll`, `lostUpTo`, `timesByAll`", "---- by all");
        interfaceSays("`board`, `move`, `undo`, `about`, `digest`", "---- the board");
    }

    private static void whatIsTold() {
        Says.says(WHAT, "Heaps by golden cuts: games on heaps in which who wins is told for heaps of any length by shares and digits, "
            + "the same as by going over all", () -> {
            for (int a = 0; a <= 60; a++) {
                for (int b = 0; b <= 60; b++) {
                    String heaps = "(" + a + ", " + b + ")";
                    Due.due(Says.now() + "shares" + heaps, Due.any().shares(a, b), Due.any().byAll(SHARES, false, a, b, 0));
                    Due.due(Says.now() + "both" + heaps, Due.any().both(a, b), Due.any().byAll(BOTH, false, a, b, 0));
                    for (int t = 1; t <= 9; t++) {
                        Due.due(Says.now() + "times " + t + heaps, Due.any().times(t, a, b), Due.any().timesByAll(t, a, b));
                    }
                }
            }
        });
        Says.says(WHAT, "multiples taken from the greater of two, one heap or both alike, no more than so many times what was taken last", () -> {
            for (int a = 0; a <= 8; a++) {
                for (int b = 0; b <= 8; b++) {
                    movesAreThose(SHARES, a, b, 0);
                    movesAreThose(BOTH, a, b, 0);
                    if (b > 0) movesAreThose(TIMES, a, b, 0);
                    movesAreThose(THREE, a, b, (a + 2 * b) % 7);
                }
            }
        });
        Says.says(WHAT, "winning moves, lost places listed", () -> {
            for (int a = 0; a <= 30; a++) {
                for (int b = 0; b <= 30; b++) {
                    winningSharesLead(a, b);
                    winningBothLeads(a, b);
                    if (b > 0 && b <= 9) winningTimesLeads(b, a);
                }
            }
            for (int k = 0; k <= 100; k++) {
                Due.due(Says.now() + "both at the LOST place " + k, Due.any().both(Due.any().lost(k, 0), Due.any().lost(k, 1)), 0);
            }
        });
        Says.says(WHAT, "rows that share out all numbers", () -> {
            int[] seen = new int[400];
            for (int k = 1; k < seen.length; k++) {
                for (int what = 0; what < 2; what++) {
                    long h = Due.any().lost(k, what);
                    if (h >= 0 && h < seen.length) seen[(int) h]++;
                }
            }
            Due.due(Says.now() + "0 is in none but the 0-th", seen[0], 0);
            for (int h = 1; h < seen.length; h++) Due.due(Says.now() + h + " is in so many", seen[h], 1);
        });
        Says.says(WHAT, "digits of numbers by told rows", () -> {
            for (int t = 1; t <= 9; t++) {
                List<Long> row = ByHand.theRow(t);
                for (long n : new long[] {1, 7, 60, 999, 123456789, 500000000000L, Due.GREATEST - 1, Due.GREATEST}) {
                    List<Long> sum = ByHand.sum(row, n);
                    Due.due(Says.now() + "digits(" + t + ", " + n + ")", Due.any().digits(t, n), sum.size());
                    Due.due(Says.now() + "last(" + t + ", " + n + ")", Due.any().last(t, n), sum.get(sum.size() - 1));
                }
            }
        });
    }

    /** The places that the board's moves lead to, with their bounds, are those of the rules written out. */
    private static void movesAreThose(int game, int a, int b, int c) {
        GoldHeaps x = new GoldHeaps();
        x.board(game, false, a, b, c);
        Set<String> want = new TreeSet<>();
        for (long[] p : ByHand.moves(game, b, a, b, c, a - 1)) want.add(p[0] + " " + p[1] + " " + p[2] + " " + p[3]);
        Set<String> got = new TreeSet<>();
        for (int which = 0; which < 4; which++) {
            for (int many = 1; many <= 9; many++) {
                if (x.move(which, many) < 1) continue;
                got.add(x.about(0) + " " + x.about(1) + " " + x.about(2) + " " + x.about(3));
                x.undo();
            }
        }
        Due.holds(Says.now() + "GAME " + game + " at " + a + " " + b + " " + c + " leads to " + got, got.equals(want));
    }

    private static void winningSharesLead(int a, int b) {
        long times = Due.any().sharesMove(a, b);
        Due.due(Says.now() + "shares and sharesMove at " + a + " " + b, Due.any().shares(a, b), times > 0 ? 1 : 0);
        if (times > 0) leadsToLost(SHARES, a, b, a >= b ? 0 : 1, times * Math.min(a, b));
    }

    private static void winningBothLeads(int a, int b) {
        long which = Due.any().bothMove(a, b, 0);
        Due.due(Says.now() + "both and bothMove at " + a + " " + b, Due.any().both(a, b), which >= 0 ? 1 : 0);
        if (which >= 0) leadsToLost(BOTH, a, b, (int) which, Due.any().bothMove(a, b, 1));
    }

    private static void winningTimesLeads(int t, int n) {
        if (n == 0) return;
        long many = Due.any().timesMove(t, n, n - 1);
        Due.due(Says.now() + "times and timesMove " + t + " at " + n, Due.any().times(t, n, n - 1), many > 0 ? 1 : 0);
        if (many > 0) leadsToLost(TIMES, n, t, 0, many);
    }

    private static void leadsToLost(int game, int a, int b, int which, long many) {
        new Run().due("board(" + game + ", false, " + a + ", " + b + ", 0)", 1).due("about(5)", 1)
            .then("move(" + which + ", " + many + ")").due("about(4)", 1).due("about(5)", 0).due("about(7)", 0);
    }

    private static void plays() {
        Says.says(WHAT, "the last taker loses, three heaps", () -> {
            boolean[][][] won = ByHand.wonOfThree(true, 10);
            for (int a = 0; a <= 10; a++) {
                for (int b = 0; b <= 10; b++) {
                    for (int c = 0; c <= 10; c++) {
                        String call = "byAll(3, true, " + a + ", " + b + ", " + c + ")";
                        Due.due(Says.now() + call, Due.any().byAll(THREE, true, a, b, c), won[a][b][c] ? 1 : 0);
                    }
                }
            }
        });
        Says.says(WHAT, "plays on a board that are judged as they go", () -> new Run()
            .then("board(1, false, 4, 6, 0)").abouts(4, 6, 0, 0, 0, 1, 0, 0, 1)
            .due("move(2, 1)", 1).abouts(3, 5, 0, 0, 1, 0, 1, 0, 1)
            .due("move(1, 1)", 1).abouts(3, 4, 0, 0, 2, 1, 0, 0, 1)
            .due("move(0, 1)", 1).abouts(2, 4, 0, 0, 3, 1, 1, 1, 1)
            .due("move(1, 3)", 1).abouts(2, 1, 0, 0, 4, 0, 0, 1, 1)
            .due("move(0, 2)", 1).abouts(0, 1, 0, 0, 5, 1, 1, 1, 1)
            .due("move(1, 1)", 2).abouts(0, 0, 0, 0, 6, 0, 0, 1, 1));
        Says.says(WHAT, "Two PLAYERS move by turns", () -> {
            String[] boards = {"board(0, false, 100, 7, 0)", "board(1, true, 30, 30, 0)", "board(2, false, 100, 3, 0)", "board(3, false, 9, 9, 9)"};
            for (String board : boards) {
                String one = board.startsWith("board(0") ? "move(0, 7)" : "move(0, 1)";
                new Run().then(board).due("about(6)", 0).then(one).due("about(6)", 1).then(one).due("about(6)", 0).then(one).due("about(6)", 1)
                    .then("move(0, 1000)", "move(9, 1)").due("about(6)", 1).then("undo()").due("about(6)", 0).then("undo()").due("about(6)", 1)
                    .then(board).due("about(6)", 0);
            }
        });
        // Free is the answer; that no call throws is LANGUAGE.md's, whatever came ahead of it.
        Says.says(WHAT, "what later calls answer is free", () -> {
            Run run = new Run().then("board(2, false, MOST, 9, 0)");
            for (int i = 0; i < 600; i++) run.then("move(0, 1)", "row(9, " + i + ")", "digest()");
            Due.holds(Says.now() + "far behind the 512th call none throws", run.calls() > 512);
        });
    }

    private static void places() {
        Says.says(TERMS, "A PLACE is WON if who is to move there can win, whatever the other one does; else LOST.", () -> {
            for (int misere = 0; misere < 2; misere++) {
                for (int a = 0; a <= 12; a++) {
                    for (int b = 0; b <= 12; b++) {
                        placeIsJudged(SHARES, misere == 1, a, b, 0);
                        placeIsJudged(BOTH, misere == 1, a, b, 0);
                        for (int c = 0; c <= 6 && a <= 6 && b <= 6; c++) placeIsJudged(THREE, misere == 1, a, b, c);
                    }
                }
            }
            for (int t = 1; t <= 9; t++) {
                for (int n = 0; n <= 20; n++) {
                    placeIsJudged(TIMES, false, n, t, 0);
                    for (int first = 1; first < n; first++) placeIsJudged(TIMES, false, n, t, 0, first);
                }
            }
        });
        Says.says(TERMS, "LOST ones of BOTH, with the lesser heap first", () -> {
            long k = 0;
            for (int difference = 0; difference <= 60; difference++) {
                for (int a = 0; a + difference <= 200; a++) {
                    if (Due.any().both(a, a + difference) != 0) continue;
                    Due.due(Says.now() + "lost(" + k + ", 0)", Due.any().lost(k, 0), a);
                    Due.due(Says.now() + "lost(" + k + ", 1)", Due.any().lost(k, 1), a + difference);
                    Due.due(Says.now() + "both the other way round", Due.any().both(a + difference, a), 0);
                    k++;
                }
            }
            Due.due(Says.now() + "one for each difference", k, 61);
        });
    }

    /** By the board's own moves: WON just where one leads to a LOST place or, of MISERE, none can be made. */
    private static void placeIsJudged(int game, boolean misere, int a, int b, int c, int... firstMoves) {
        GoldHeaps x = new GoldHeaps();
        x.board(game, misere, a, b, c);
        for (int many : firstMoves) x.move(0, many);
        long most = Math.max(x.about(0), Math.max(x.about(1), x.about(2)));
        boolean canMove = false, canWin = false;
        for (int which = 0; which < 4; which++) {
            for (long many = 1; many <= most; many++) {
                if (x.move(which, many) < 1) continue;
                canMove = true;
                canWin |= x.about(5) == 0;
                x.undo();
            }
        }
        String place = "GAME " + game + (misere ? " MISERE" : "") + " at " + x.about(0) + " " + x.about(1) + " " + x.about(2) + " " + x.about(3);
        Due.due(Says.now() + place, x.about(5), (canMove ? canWin : misere) ? 1 : 0);
    }

    private static void boards() {
        Says.says(TERMS, "GAME 0 SHARES: two heaps a, b", () -> new Run()
            .then("board(0, false, 8, 5, 3)").abouts(8, 5, 0, 0, 0, 0, 0, 0, 0)
            .then("board(0, false, 5, 9, 3)").abouts(5, 9, 0, 0, 0, 1, 0, 0, 0));
        Says.says(TERMS, "one heap n, a bound b", () -> new Run()
            .then("board(2, false, 21, 2, 3)").abouts(21, 0, 0, 20, 0, 0, 0, 0, 2).then("move(0, 4)").abouts(17, 0, 0, 8, 1, 1, 1, 0, 2)
            .due(0, "times(2, 17, 0)").due(1, "times(2, 17, 1)").due(0, "times(2, 16, 2)").due(1, "times(2, 16, 3)"));
        Says.says(TERMS, "A BOARD has a GAME, MISERE or not, heaps, of TIMES a bound (n less 1 at first) and t; a row of moves.", () -> new Run()
            .then("board(1, true, 2, 2, 0)").abouts(2, 2, 0, 0, 0, 0, 0, 0, 1)
            .then("board(1, false, 2, 2, 0)").abouts(2, 2, 0, 0, 0, 1, 0, 0, 1)
            .then("move(2, 1)", "move(0, 1)").due("about(4)", 2)
            .then("board(2, false, 9, 4, 0)").abouts(9, 0, 0, 8, 0, 0, 0, 0, 2).refused(NO, "undo()")
            .then("move(0, 2)").due("about(3)", 8).then("board(2, false, 9, 3, 0)", "move(0, 2)").due("about(3)", 6)
            .then("board(3, true, 1, 2, 3)").due("about(8)", 3).due("about(4)", 0).refused(NO, "undo()")
            .then("move(3, 1)", "move(1, 1)", "move(2, 2)").due("undo()", 2).due("undo()", 1).due("undo()", 0).due("undo()", NO)
            .due("about(0)", 1).due("about(1)", 2).due("about(2)", 3));
    }

    private static void asking() {
        Says.says("Not promised", "Nothing is promised beyond the answers and state changes described above", () -> Run.changesNothing(
            "shares(13, 8)", "sharesMove(23, 5)", "both(4, 6)", "bothMove(4, 6, 0)", "bothMove(4, 6, 1)", "lost(9, 1)", "lostOf(9, 0)",
            "row(5, 5)", "digits(6, 77)", "last(7, 77)", "times(8, 77, 7)", "timesMove(1, 77, 7)",
            "byAll(0, false, 9, 5, 0)", "byAll(1, true, 9, 5, 0)", "byAll(3, false, 9, 5, 1)", "lostUpTo(0, true, 9)", "lostUpTo(3, true, 9)",
            "timesByAll(4, 44, 4)", "about(0)", "about(3)", "about(5)", "about(7)", "digest()"));
    }

    /** In the source the words stand ahead of the calls, and nothing of another part stands between. */
    private static void interfaceSays(String calls, String words) {
        Says.says(TERMS, "Ahead of the calls " + calls + " the interface says: " + words + ".", () -> {
            String source = source();
            int start = source.indexOf("// " + words + "\n");
            Due.holds(Says.now() + "the words stand in the source", start >= 0);
            int end = source.indexOf("// ----", start + 1);
            String part = source.substring(Math.max(0, start), end < 0 ? source.length() : end);
            int at = 0;
            for (String name : calls.replace("`", "").split(", ")) {
                int next = part.indexOf(" " + name + "(", at);
                Due.holds(Says.now() + name + " stands there, in its order", next > at);
                at = Math.max(at, next);
            }
        });
    }

    private static String source() {
        try {
            return Files.readString(SOURCE);
        } catch (IOException e) {
            throw new UncheckedIOException(e);
        }
    }
}
