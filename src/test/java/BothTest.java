import java.util.Random;

/** Promises 4 (both), 5 (bothMove), 6 (lost) and 7 (lostOf). */
public final class BothTest {
    public static void main(String[] args) {
        shortHeapsAsByHand();
        lostInTurn();
        longOnesAsByRoots();
        longMoves();
        edges();
        wrongNumbers();
        Due.end();
    }

    private static void shortHeapsAsByHand() {
        int most = 130;
        boolean[][] won = ByHand.wonOfTwo(1, false, most);
        for (int a = 0; a <= most; a++) {
            for (int b = 0; b <= most; b++) {
                long[] move = winningMove(won, a, b);
                Due.due("both(" + a + ", " + b + ")", Due.any().both(a, b), won[a][b] ? 1 : 0);
                Due.due("bothMove(" + a + ", " + b + ", 0)", Due.any().bothMove(a, b, 0), move[0]);
                Due.due("bothMove(" + a + ", " + b + ", 1)", Due.any().bothMove(a, b, 1), move[1]);
            }
        }
    }

    private static long[] winningMove(boolean[][] won, int a, int b) {
        for (int x = 1; x <= a; x++) if (!won[a - x][b]) return new long[] {0, x};
        for (int x = 1; x <= b; x++) if (!won[a][b - x]) return new long[] {1, x};
        for (int x = 1; x <= Math.min(a, b); x++) if (!won[a - x][b - x]) return new long[] {2, x};
        return new long[] {GoldHeaps.NONE, 0};
    }

    /** By the document's words: x(k) is the least number that is in none ahead of it. */
    private static void lostInTurn() {
        int count = 20000;
        boolean[] used = new boolean[4 * count];
        int x = 0;
        for (int k = 0; k < count; k++) {
            while (used[x]) x++;
            used[x] = true;
            used[x + k] = true;
            Due.due("lost(" + k + ", 0)", Due.any().lost(k, 0), x);
            Due.due("lost(" + k + ", 1)", Due.any().lost(k, 1), x + k);
            Due.due("lostOf(" + x + ", 0)", Due.any().lostOf(x, 0), k);
            Due.due("lostOf(" + x + ", 1)", Due.any().lostOf(x, 1), 1);
            Due.due("lostOf(" + (x + k) + ", 0)", Due.any().lostOf(x + k, 0), k);
            Due.due("lostOf(" + (x + k) + ", 1)", Due.any().lostOf(x + k, 1), k == 0 ? 1 : 0);
        }
    }

    private static void longOnesAsByRoots() {
        Random random = new Random(2);
        for (int i = 0; i < 20000; i++) {
            oneLost((long) (random.nextDouble() * 618_033_988_750L));
        }
        for (long f = 1, g = 1; f <= 618_033_988_750L; ) {
            for (long d = -2; d <= 2; d++) oneLost(Math.max(0, f + d));
            long h = f + g;
            f = g;
            g = h;
        }
    }

    private static void oneLost(long k) {
        long x = ByHand.cut(k), y = x + k;
        if (k <= 300_000_000_000L) {
            Due.due("lost(" + k + ", 0)", Due.any().lost(k, 0), x);
            Due.due("lost(" + k + ", 1)", Due.any().lost(k, 1), y);
        }
        if (x <= Due.GREATEST) {
            Due.due("lostOf(" + x + ", 0)", Due.any().lostOf(x, 0), k);
            Due.due("lostOf(" + x + ", 1)", Due.any().lostOf(x, 1), 1);
        }
        if (y <= Due.GREATEST) {
            Due.due("lostOf(" + y + ", 0)", Due.any().lostOf(y, 0), k);
            Due.due("lostOf(" + y + ", 1)", Due.any().lostOf(y, 1), k == 0 ? 1 : 0);
            for (long d = -1; d <= 1; d++) {
                asByRoots(x, y + d);
                asByRoots(y, x + d);
            }
        }
    }

    private static boolean isWon(long a, long b) {
        return ByHand.cut(Math.abs(a - b)) != Math.min(a, b);
    }

    private static void asByRoots(long a, long b) {
        if (a < 0 || b < 0 || a > Due.GREATEST || b > Due.GREATEST) return;
        Due.due("both(" + a + ", " + b + ")", Due.any().both(a, b), isWon(a, b) ? 1 : 0);
    }

    private static void longMoves() {
        Random random = new Random(3);
        for (int i = 0; i < 20000; i++) {
            long a = (long) (random.nextDouble() * Due.GREATEST);
            long b = random.nextBoolean() ? (long) (random.nextDouble() * Due.GREATEST) : Math.min(Due.GREATEST, a + random.nextInt(1000));
            oneMove(a, b);
            oneMove(b, a);
        }
    }

    private static void oneMove(long a, long b) {
        long which = Due.any().bothMove(a, b, 0), many = Due.any().bothMove(a, b, 1);
        String call = "bothMove(" + a + ", " + b + ") = " + which + ", " + many;
        if (which == GoldHeaps.NONE) {
            Due.holds(call + " at LOST", many == 0 && !isWon(a, b));
            return;
        }
        long left = which == 1 ? a : a - many, right = which == 0 ? b : b - many;
        Due.holds(call + " may be", which >= 0 && which <= 2 && many >= 1 && left >= 0 && right >= 0);
        Due.holds(call + " leads to LOST", !isWon(left, right));
        // A heap's partner, by roots: the k of a heap h is one of the two next to h by the golden cut or its square.
        if (which > 0) Due.holds(call + ": none from a alone", partner(b) >= a);
        if (which > 1) Due.holds(call + ": none from b alone", partner(a) >= b);
    }

    private static long partner(long h) {
        long k = ByHand.cut(h) - h;
        for (long i = Math.max(0, k - 1); i <= k + 2; i++) if (ByHand.cut(i) == h) return h + i;
        long g = 2 * h - ByHand.cut(h);
        for (long i = Math.max(0, g - 2); i <= g + 2; i++) if (ByHand.cut(i) + i == h) return h - i;
        throw new IllegalStateException("no partner of " + h);
    }

    private static void edges() {
        long most = Due.GREATEST;
        Due.due("both(most, most)", Due.any().both(most, most), 1);
        Due.due("bothMove(most, most, 0)", Due.any().bothMove(most, most, 0), 2);
        Due.due("bothMove(most, most, 1)", Due.any().bothMove(most, most, 1), most);
        Due.due("bothMove(most, 0, 0)", Due.any().bothMove(most, 0, 0), 0);
        Due.due("bothMove(most, 0, 1)", Due.any().bothMove(most, 0, 1), most);
        Due.due("bothMove(0, most, 0)", Due.any().bothMove(0, most, 0), 1);
        Due.due("bothMove(0, most, 1)", Due.any().bothMove(0, most, 1), most);
        Due.due("bothMove(0, 0, 0)", Due.any().bothMove(0, 0, 0), GoldHeaps.NONE);
        Due.due("bothMove(0, 0, 1)", Due.any().bothMove(0, 0, 1), 0);
        Due.due("lostOf(most, 1)", Due.any().lostOf(most, 1), 1);
        Due.due("lost(0, 1)", Due.any().lost(0, 1), 0);
        // A move from one heap alone stands ahead of one from both, though that may take less.
        Due.due("bothMove(5, 6, 0)", Due.any().bothMove(5, 6, 0), 1);
        Due.due("bothMove(5, 6, 1)", Due.any().bothMove(5, 6, 1), 3);
        Due.due("bothMove(7, 3, 0)", Due.any().bothMove(7, 3, 0), 0);
        Due.due("bothMove(7, 3, 1)", Due.any().bothMove(7, 3, 1), 2);
    }

    private static void wrongNumbers() {
        long[] wrong = {-1, Due.GREATEST + 1, Long.MIN_VALUE, Long.MAX_VALUE};
        for (long w : wrong) {
            Due.due("both(" + w + ", 1)", Due.any().both(w, 1), GoldHeaps.BAD);
            Due.due("both(1, " + w + ")", Due.any().both(1, w), GoldHeaps.BAD);
            for (int what = 0; what <= 1; what++) {
                Due.due("bothMove(" + w + ", 1, " + what + ")", Due.any().bothMove(w, 1, what), GoldHeaps.BAD);
                Due.due("bothMove(1, " + w + ", " + what + ")", Due.any().bothMove(1, w, what), GoldHeaps.BAD);
                Due.due("lostOf(" + w + ", " + what + ")", Due.any().lostOf(w, what), GoldHeaps.BAD);
                Due.due("lost(" + w + ", " + what + ")", Due.any().lost(w, what), GoldHeaps.BAD);
            }
        }
        Due.due("lost(300000000001, 1)", Due.any().lost(300_000_000_001L, 1), GoldHeaps.BAD);
        for (int what : new int[] {-1, 2, Integer.MIN_VALUE, Integer.MAX_VALUE}) {
            Due.due("bothMove(1, 1, " + what + ")", Due.any().bothMove(1, 1, what), GoldHeaps.BAD);
            Due.due("lost(1, " + what + ")", Due.any().lost(1, what), GoldHeaps.BAD);
            Due.due("lostOf(1, " + what + ")", Due.any().lostOf(1, what), GoldHeaps.BAD);
        }
    }
}
