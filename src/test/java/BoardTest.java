import java.util.ArrayList;
import java.util.List;
import java.util.Random;

/** Promises 1 (a new object), 16 (board), 17 (move), 18 (undo), 19 (about) and 20 (digest). */
public final class BoardTest {
    private static final int BAD = GoldHeaps.BAD, NO = GoldHeaps.NO;

    private static final boolean[][][] TWO = {
        ByHand.wonOfTwo(0, false, 60), ByHand.wonOfTwo(0, true, 60),
        ByHand.wonOfTwo(1, false, 60), ByHand.wonOfTwo(1, true, 60)};
    private static final boolean[][][][] THREE = {ByHand.wonOfThree(false, 10), ByHand.wonOfThree(true, 10)};

    /** A board by the document's words. */
    private static final class Model {
        int game = 1;
        boolean misere;
        int t;
        List<long[]> places = new ArrayList<>(List.of(new long[4]));

        long[] now() {
            return places.get(places.size() - 1);
        }

        int board(int g, boolean m, long a, long b, long c) {
            long most = g == 3 ? 10 : m ? 60 : Due.GREATEST;
            boolean good = g >= 0 && g <= 3 && a >= 0 && a <= most;
            good &= g == 2 ? !m && b >= 1 && b <= 9 : b >= 0 && b <= most;
            good &= g != 3 || c >= 0 && c <= most;
            if (!good) return BAD;
            game = g;
            misere = m;
            t = g == 2 ? (int) b : 0;
            places = new ArrayList<>();
            places.add(new long[] {a, g == 2 ? 0 : b, g == 3 ? c : 0, g == 2 && a > 0 ? a - 1 : 0});
            return 1;
        }

        int move(int which, long many) {
            int[] most = {1, 2, 0, 3};
            if (which < 0 || which > most[game]) return BAD;
            long[] p = now(), q = p.clone();
            if (many < 1 || many > Due.GREATEST || places.size() > 200) return NO;
            int heaps = new int[] {2, 2, 1, 3}[game];
            for (int i = 0; i < heaps; i++) if (which == i || which == heaps) q[i] -= many;
            for (long v : q) if (v < 0) return NO;
            if (game == 0 && (p[which] < p[1 - which] || p[1 - which] == 0 || many % p[1 - which] != 0)) return NO;
            if (game == 2 && many > p[3]) return NO;
            if (game == 2) q[3] = Math.min(Due.GREATEST, t * many);
            places.add(q);
            return over(q) ? 2 : 1;
        }

        boolean over(long[] p) {
            return switch (game) {
                case 0 -> p[0] == 0 || p[1] == 0;
                case 2 -> p[0] == 0 || p[3] == 0;
                default -> p[0] + p[1] + p[2] == 0;
            };
        }

        boolean won(long[] p) {
            if (game == 3) return THREE[misere ? 1 : 0][(int) p[0]][(int) p[1]][(int) p[2]];
            if (game == 2) {
                if (p[0] == 0) return false;
                List<Long> parts = ByHand.sum(ByHand.theRow(t), p[0]);
                return p[3] >= parts.get(parts.size() - 1);
            }
            if (p[0] <= 60 && p[1] <= 60) return TWO[2 * game + (misere ? 1 : 0)][(int) p[0]][(int) p[1]];
            long greater = Math.max(p[0], p[1]), lesser = Math.min(p[0], p[1]);
            if (game == 1) return ByHand.cut(greater - lesser) != lesser;
            return lesser > 0 && (greater == lesser || ByHand.isAboveGolden(greater, lesser));
        }

        int undo() {
            if (places.size() == 1) return NO;
            places.remove(places.size() - 1);
            return places.size() - 1;
        }

        long about(int what) {
            int made = places.size() - 1;
            if (what >= 0 && what <= 3) return now()[what];
            if (what == 4) return made;
            if (what == 5) return won(now()) ? 1 : 0;
            if (what == 6) return made % 2;
            if (what == 7) {
                int faults = 0;
                for (int i = 0; i < made; i++) if (won(places.get(i)) && won(places.get(i + 1))) faults++;
                return faults;
            }
            return what == 8 ? game : BAD;
        }

        long digest() {
            long h = 227;
            for (int what = 0; what <= 8; what++) h = 31 * h + about(what);
            return h;
        }
    }

    public static void main(String[] args) {
        newObject();
        boardsMade();
        boardsRefused();
        movesOfEachGame();
        twoHundredMoves();
        faults();
        greatBounds();
        for (int seed = 0; seed < 1500; seed++) randomRun(seed);
        Due.end();
    }

    private static void abouts(String when, GoldHeaps x, long... wants) {
        long h = 227;
        for (int what = 0; what < wants.length; what++) {
            Due.due(when + ": about(" + what + ")", x.about(what), wants[what]);
            h = 31 * h + wants[what];
        }
        Due.due(when + ": digest()", x.digest(), h);
    }

    private static void newObject() {
        GoldHeaps x = new GoldHeaps();
        abouts("new", x, 0, 0, 0, 0, 0, 0, 0, 0, 1);
        Due.due("new: undo()", x.undo(), NO);
        for (int which = 0; which <= 2; which++) Due.due("new: move(" + which + ", 1)", x.move(which, 1), NO);
        Due.due("new: move(3, 1)", x.move(3, 1), BAD);
        Due.due("new: move(-1, 1)", x.move(-1, 1), BAD);
        for (int what : new int[] {-1, 9, Integer.MIN_VALUE, Integer.MAX_VALUE}) Due.due("about(" + what + ")", x.about(what), BAD);
    }

    private static void boardsMade() {
        GoldHeaps x = new GoldHeaps();
        long most = Due.GREATEST;
        Due.due("SHARES", x.board(0, false, most, most, -5), 1);
        abouts("SHARES", x, most, most, 0, 0, 0, 1, 0, 0, 0);
        Due.due("BOTH", x.board(1, false, most, 0, Long.MAX_VALUE), 1);
        abouts("BOTH", x, most, 0, 0, 0, 0, 1, 0, 0, 1);
        Due.due("TIMES", x.board(2, false, most, 9, Long.MIN_VALUE), 1);
        abouts("TIMES", x, most, 0, 0, most - 1, 0, 1, 0, 0, 2);
        Due.due("TIMES of 1", x.board(2, false, 1, 1, 0), 1);
        abouts("TIMES of 1", x, 1, 0, 0, 0, 0, 0, 0, 0, 2);
        Due.due("TIMES of 0", x.board(2, false, 0, 1, 0), 1);
        abouts("TIMES of 0", x, 0, 0, 0, 0, 0, 0, 0, 0, 2);
        Due.due("THREE", x.board(3, false, 10, 10, 10), 1);
        abouts("THREE", x, 10, 10, 10, 0, 0, 1, 0, 0, 3);
        Due.due("THREE of 0", x.board(3, true, 0, 0, 0), 1);
        abouts("THREE of 0, MISERE", x, 0, 0, 0, 0, 0, 1, 0, 0, 3);
        Due.due("SHARES MISERE", x.board(0, true, 60, 0, 77), 1);
        abouts("SHARES MISERE", x, 60, 0, 0, 0, 0, 1, 0, 0, 0);
        Due.due("BOTH MISERE", x.board(1, true, 60, 60, 61), 1);
        abouts("BOTH MISERE", x, 60, 60, 0, 0, 0, 1, 0, 0, 1);
    }

    private static void boardsRefused() {
        GoldHeaps x = new GoldHeaps();
        x.board(3, true, 4, 5, 6);
        x.move(1, 2);
        long before = x.digest();
        long above = Due.GREATEST + 1;
        for (int game = 0; game <= 3; game++) {
            for (int i = 0; i <= 1; i++) {
                boolean misere = i == 1;
                long first = game == 3 ? 11 : misere ? 61 : above;
                for (long w : new long[] {-1, first, Long.MIN_VALUE, Long.MAX_VALUE}) {
                    Due.due("board(" + game + ", " + misere + ", " + w + ", 1, 1)", x.board(game, misere, w, 1, 1), BAD);
                    Due.due("board(" + game + ", " + misere + ", 1, " + w + ", 1)", x.board(game, misere, 1, w, 1), BAD);
                    if (game == 3) Due.due("board(3, 1, 1, " + w + ")", x.board(3, misere, 1, 1, w), BAD);
                }
            }
        }
        for (int game : new int[] {-1, 4, Integer.MIN_VALUE, Integer.MAX_VALUE}) Due.due("board(" + game + ")", x.board(game, false, 1, 1, 1), BAD);
        Due.due("MISERE TIMES", x.board(2, true, 5, 2, 0), BAD);
        Due.due("TIMES 0", x.board(2, false, 5, 0, 0), BAD);
        Due.due("TIMES 10", x.board(2, false, 5, 10, 0), BAD);
        Due.due("TIMES by more than an int holds", x.board(2, false, 5, (1L << 32) + 2, 0), BAD);
        Due.due("refused boards change nothing", x.digest(), before);
        Due.due("refused boards leave the moves", x.undo(), 0);
        Due.due("the move is taken back", x.about(1), 5);
    }

    private static void movesOfEachGame() {
        GoldHeaps x = new GoldHeaps();
        x.board(0, false, 6, 6, 0);
        Due.due("SHARES, no which 2", x.move(2, 6), BAD);
        Due.due("SHARES, no multiple", x.move(0, 3), NO);
        Due.due("SHARES, two alike", x.move(1, 6), 2);
        abouts("SHARES over", x, 6, 0, 0, 0, 1, 0, 1, 0, 0);
        Due.due("SHARES over, move", x.move(0, 6), NO);
        Due.due("SHARES over, undo", x.undo(), 0);
        abouts("SHARES again", x, 6, 6, 0, 0, 0, 1, 0, 0, 0);
        x.board(0, false, 7, 21, 0);
        Due.due("SHARES, from the lesser", x.move(0, 7), NO);
        Due.due("SHARES, more than there is", x.move(1, 28), NO);
        Due.due("SHARES, 0 times", x.move(1, 0), NO);
        Due.due("SHARES, less than 0", x.move(1, -7), NO);
        Due.due("SHARES, twice", x.move(1, 14), 1);

        x.board(1, false, 4, 9, 0);
        Due.due("BOTH, no which 3", x.move(3, 1), BAD);
        Due.due("BOTH, both", x.move(2, 4), 1);
        Due.due("BOTH, both at a 0", x.move(2, 1), NO);
        Due.due("BOTH, of none", x.move(0, 1), NO);
        Due.due("BOTH, 0", x.move(1, 0), NO);
        Due.due("BOTH, the last", x.move(1, 5), 2);
        abouts("BOTH over, 4, 9 to 0, 5 was a fault", x, 0, 0, 0, 0, 2, 0, 0, 1, 1);

        x.board(2, false, 10, 3, 0);
        Due.due("TIMES, no which 1", x.move(1, 1), BAD);
        Due.due("TIMES, all at first", x.move(0, 10), NO);
        Due.due("TIMES", x.move(0, 2), 1);
        Due.due("TIMES, bound", x.about(3), 6);
        Due.due("TIMES, above the bound", x.move(0, 7), NO);
        Due.due("TIMES", x.move(0, 6), 1);
        Due.due("TIMES, bound", x.about(3), 18);
        Due.due("TIMES, more than there is", x.move(0, 3), NO);
        Due.due("TIMES, undo", x.undo(), 1);
        Due.due("TIMES, bound back", x.about(3), 6);
        Due.due("TIMES, undo", x.undo(), 0);
        Due.due("TIMES, bound back", x.about(3), 9);
        Due.due("TIMES", x.move(0, 9), 1);
        Due.due("TIMES, the last", x.move(0, 1), 2);
        abouts("TIMES over, taking 9 of 10 was a fault", x, 0, 0, 0, 3, 2, 0, 0, 1, 2);

        x.board(3, true, 1, 2, 3);
        Due.due("THREE, no which 4", x.move(4, 1), BAD);
        Due.due("THREE, all", x.move(3, 1), 1);
        Due.due("THREE, all at a 0", x.move(3, 1), NO);
        Due.due("THREE", x.move(2, 2), 1);
        Due.due("THREE, the last", x.move(1, 1), 2);
        Due.due("THREE over, BAD is first", x.move(4, 1), BAD);
        Due.due("THREE over", x.move(1, 1), NO);
        Due.due("move(least int)", x.move(Integer.MIN_VALUE, 1), BAD);
        Due.due("move of the most long", x.move(0, Long.MAX_VALUE), NO);
        Due.due("move of the least long", x.move(0, Long.MIN_VALUE), NO);
    }

    private static void twoHundredMoves() {
        GoldHeaps x = new GoldHeaps();
        x.board(1, false, 150, 150, 0);
        for (int i = 0; i < 200; i++) Due.due("move " + i, x.move(i % 2, 1), 1);
        long before = x.digest();
        Due.due("move 200", x.move(0, 1), NO);
        Due.due("move 200, BAD is first", x.move(3, 1), BAD);
        Due.due("move 200 changes nothing", x.digest(), before);
        Due.due("moves made", x.about(4), 200);
        Due.due("undo", x.undo(), 199);
        Due.due("move 199 again", x.move(1, 51), 1);
        for (int i = 199; i >= 0; i--) Due.due("undo", x.undo(), i);
        abouts("all taken back", x, 150, 150, 0, 0, 0, 1, 0, 0, 1);
        // The last move may be move 200.
        x.board(1, false, 200, 0, 0);
        for (int i = 1; i <= 200; i++) Due.due("move " + i + " of 200", x.move(0, 1), i == 200 ? 2 : 1);
    }

    private static void faults() {
        GoldHeaps x = new GoldHeaps();
        x.board(1, false, 5, 5, 0);
        x.move(0, 1);
        Due.due("WON to WON", x.about(7), 1);
        x.move(1, 2);
        Due.due("WON to WON again", x.about(7), 2);
        x.move(0, 3);
        x.move(0, 1);
        Due.due("4, 3 to 1, 3 to 0, 3: all WON", x.about(7), 4);
        x.move(1, 3);
        Due.due("WON to LOST", x.about(7), 4);
        x.undo();
        x.undo();
        Due.due("taken back", x.about(7), 3);
        x.board(1, false, 1, 2, 0);
        Due.due("a new board", x.about(7), 0);
        x.move(0, 1);
        Due.due("LOST to WON", x.about(7), 0);
        // Of MISERE the place where nothing is left is WON, so taking the last from a WON place is a fault.
        x.board(1, true, 3, 3, 0);
        Due.due("MISERE, the last taker", x.move(2, 3), 2);
        Due.due("MISERE, WON to WON", x.about(7), 1);
    }

    private static void greatBounds() {
        GoldHeaps x = new GoldHeaps();
        x.board(2, false, Due.GREATEST, 9, 0);
        Due.due("a great move", x.move(0, 500_000_000_000L), 1);
        Due.due("what t x is more counts as the greatest", x.about(3), Due.GREATEST);
        Due.due("the last", x.move(0, 500_000_000_000L), 2);
        x.board(2, false, Due.GREATEST, 1, 0);
        x.move(0, 7);
        Due.due("TIMES 1", x.about(3), 7);
    }

    private static void randomRun(int seed) {
        Random random = new Random(seed);
        GoldHeaps x = new GoldHeaps();
        Model model = new Model();
        StringBuilder run = new StringBuilder("seed " + seed);
        for (int i = 0; i < 150; i++) {
            int kind = random.nextInt(20);
            if (kind == 0) {
                int game = random.nextInt(40) == 0 ? random.nextInt(7) - 2 : random.nextInt(4);
                boolean misere = random.nextBoolean();
                long[] v = new long[3];
                for (int j = 0; j < 3; j++) v[j] = heap(random, game);
                if (game == 2) v[1] = random.nextInt(10);
                String call = "board(" + game + ", " + misere + ", " + v[0] + ", " + v[1] + ", " + v[2] + ")";
                Due.due(run + " " + call, x.board(game, misere, v[0], v[1], v[2]), model.board(game, misere, v[0], v[1], v[2]));
            } else if (kind < 15) {
                int which = random.nextInt(30) == 0 ? random.nextInt(8) - 2 : random.nextInt(4);
                long many = many(random, model, which);
                Due.due(run + " move(" + which + ", " + many + ") at " + i, x.move(which, many), model.move(which, many));
            } else if (kind < 17) {
                Due.due(run + " undo() at " + i, x.undo(), model.undo());
            } else if (kind < 19) {
                int what = random.nextInt(11) - 1;
                Due.due(run + " about(" + what + ") at " + i, x.about(what), model.about(what));
            } else {
                Due.due(run + " digest() at " + i, x.digest(), model.digest());
            }
        }
    }

    private static long heap(Random random, int game) {
        if (random.nextInt(40) == 0) return new long[] {-1, 11, 61, Due.GREATEST, Due.GREATEST + 1}[random.nextInt(5)];
        if (game == 3) return random.nextInt(11);
        return random.nextInt(3) == 0 ? (long) (random.nextDouble() * Due.GREATEST) : random.nextInt(61);
    }

    private static long many(Random random, Model model, int which) {
        long[] p = model.now();
        long from = which >= 0 && which <= 2 ? p[which] : p[0];
        if (model.game == 0) {
            long other = p[which == 0 ? 1 : 0];
            if (other > 0 && random.nextInt(10) > 0) return other * (1 + (long) (random.nextDouble() * (from / other)));
        }
        if (random.nextInt(15) == 0) return from + random.nextInt(3) - 1;
        long most = model.game == 2 ? Math.min(p[3], from) : random.nextInt(3) == 0 ? from : Math.min(from, 4);
        return 1 + (long) (random.nextDouble() * most * 1.1);
    }
}
