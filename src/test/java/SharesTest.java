import java.util.Random;

/** Promises 2 (shares) and 3 (sharesMove). */
public final class SharesTest {
    public static void main(String[] args) {
        shortHeapsAsByHand();
        longHeapsAsByRoots();
        edges();
        wrongNumbers();
        Due.end();
    }

    private static void shortHeapsAsByHand() {
        int most = 150;
        boolean[][] won = ByHand.wonOfTwo(0, false, most);
        for (int a = 0; a <= most; a++) {
            for (int b = 0; b <= most; b++) {
                Due.due("shares(" + a + ", " + b + ")", Due.any().shares(a, b), won[a][b] ? 1 : 0);
                Due.due("sharesMove(" + a + ", " + b + ")", Due.any().sharesMove(a, b), leastTimes(won, a, b));
            }
        }
    }

    private static long leastTimes(boolean[][] won, int a, int b) {
        int lesser = Math.min(a, b);
        for (int k = 1; lesser > 0 && k * lesser <= Math.max(a, b); k++) {
            if (!won[Math.max(a, b) - k * lesser][lesser]) return k;
        }
        return 0;
    }

    private static void longHeapsAsByRoots() {
        Random random = new Random(1);
        for (int i = 0; i < 20000; i++) {
            long b = 1 + (long) (random.nextDouble() * Due.GREATEST * 0.618);
            long near = ByHand.cut(b) + random.nextInt(5) - 2;
            asByRoots(near, b);
            asByRoots(b, near);
            asByRoots(1 + (long) (random.nextDouble() * Due.GREATEST), 1 + random.nextInt(1000));
            asByRoots(1 + (long) (random.nextDouble() * Due.GREATEST), b);
        }
        for (long f = 1, g = 1; f + g <= Due.GREATEST; ) {
            long h = f + g;
            f = g;
            g = h;
            asByRoots(g, f);
            asByRoots(f, g);
        }
    }

    private static boolean isWon(long a, long b) {
        long greater = Math.max(a, b), lesser = Math.min(a, b);
        return lesser > 0 && (greater == lesser || ByHand.isAboveGolden(greater, lesser));
    }

    private static void asByRoots(long a, long b) {
        if (a < 0 || b < 0 || a > Due.GREATEST || b > Due.GREATEST) return;
        Due.due("shares(" + a + ", " + b + ")", Due.any().shares(a, b), isWon(a, b) ? 1 : 0);
        long k = Due.any().sharesMove(a, b);
        String call = "sharesMove(" + a + ", " + b + ") = " + k;
        long greater = Math.max(a, b), lesser = Math.min(a, b);
        Due.holds(call + " is one just where WON", (k > 0) == isWon(a, b));
        if (k <= 0) return;
        Due.holds(call + " leads to LOST", k <= greater / lesser && !isWon(greater - k * lesser, lesser));
        Due.holds(call + " is the least", k == 1 || isWon(greater - (k - 1) * lesser, lesser) && greater - (k - 2) * lesser >= 2 * lesser);
    }

    private static void edges() {
        long most = Due.GREATEST;
        Due.due("shares(0, 0)", Due.any().shares(0, 0), 0);
        Due.due("shares(most, 0)", Due.any().shares(most, 0), 0);
        Due.due("shares(0, most)", Due.any().shares(0, most), 0);
        Due.due("shares(most, most)", Due.any().shares(most, most), 1);
        Due.due("shares(most, 1)", Due.any().shares(most, 1), 1);
        Due.due("shares(1, 1)", Due.any().shares(1, 1), 1);
        Due.due("shares(most, most - 1)", Due.any().shares(most, most - 1), 0);
        Due.due("sharesMove(most, 0)", Due.any().sharesMove(most, 0), 0);
        Due.due("sharesMove(most, most)", Due.any().sharesMove(most, most), 1);
        Due.due("sharesMove(most, 1)", Due.any().sharesMove(most, 1), most);
        Due.due("sharesMove(1, most)", Due.any().sharesMove(1, most), most);
        Due.due("sharesMove(5, 3): a move leaves 2, 3", Due.any().sharesMove(5, 3), 1);
    }

    private static void wrongNumbers() {
        long[] wrong = {-1, Due.GREATEST + 1, Long.MIN_VALUE, Long.MAX_VALUE, -Due.GREATEST};
        for (long w : wrong) {
            Due.due("shares(" + w + ", 1)", Due.any().shares(w, 1), GoldHeaps.BAD);
            Due.due("shares(1, " + w + ")", Due.any().shares(1, w), GoldHeaps.BAD);
            Due.due("sharesMove(" + w + ", 1)", Due.any().sharesMove(w, 1), GoldHeaps.BAD);
            Due.due("sharesMove(1, " + w + ")", Due.any().sharesMove(1, w), GoldHeaps.BAD);
            Due.due("sharesMove(0, " + w + ")", Due.any().sharesMove(0, w), GoldHeaps.BAD);
        }
    }
}
