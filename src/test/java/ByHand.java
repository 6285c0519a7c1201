import java.math.BigInteger;
import java.util.ArrayList;
import java.util.List;

/** The document's rules written out move by move, with nothing of the program's ways: what the tests compare with. */
final class ByHand {
    private ByHand() {
    }

    /** The places that one move leads to: {a, b, c, bound}; t is for TIMES alone. */
    static List<long[]> moves(int game, int t, long a, long b, long c, long bound) {
        List<long[]> next = new ArrayList<>();
        switch (game) {
            case 0 -> {
                if (a >= b && b > 0) {
                    for (long x = b; x <= a; x += b) next.add(new long[] {a - x, b, 0, 0});
                }
                if (b >= a && a > 0) {
                    for (long x = a; x <= b; x += a) next.add(new long[] {a, b - x, 0, 0});
                }
            }
            case 1 -> {
                for (long x = 1; x <= a; x++) next.add(new long[] {a - x, b, 0, 0});
                for (long x = 1; x <= b; x++) next.add(new long[] {a, b - x, 0, 0});
                for (long x = 1; x <= Math.min(a, b); x++) next.add(new long[] {a - x, b - x, 0, 0});
            }
            case 2 -> {
                for (long x = 1; x <= Math.min(a, bound); x++) next.add(new long[] {a - x, 0, 0, t * x});
            }
            default -> {
                for (long x = 1; x <= a; x++) next.add(new long[] {a - x, b, c, 0});
                for (long x = 1; x <= b; x++) next.add(new long[] {a, b - x, c, 0});
                for (long x = 1; x <= c; x++) next.add(new long[] {a, b, c - x, 0});
                for (long x = 1; x <= Math.min(a, Math.min(b, c)); x++) next.add(new long[] {a - x, b - x, c - x, 0});
            }
        }
        return next;
    }

    /** Whether each place of SHARES or BOTH with heaps up to most is WON. */
    static boolean[][] wonOfTwo(int game, boolean misere, int most) {
        boolean[][] won = new boolean[most + 1][most + 1];
        for (int sum = 0; sum <= 2 * most; sum++) {
            for (int a = Math.max(0, sum - most); a <= Math.min(sum, most); a++) {
                List<long[]> next = moves(game, 0, a, sum - a, 0, 0);
                boolean any = next.isEmpty() && misere;
                for (long[] p : next) any |= !won[(int) p[0]][(int) p[1]];
                won[a][sum - a] = any;
            }
        }
        return won;
    }

    static boolean[][][] wonOfThree(boolean misere, int most) {
        boolean[][][] won = new boolean[most + 1][most + 1][most + 1];
        for (int a = 0; a <= most; a++) {
            for (int b = 0; b <= most; b++) {
                for (int c = 0; c <= most; c++) {
                    List<long[]> next = moves(3, 0, a, b, c, 0);
                    boolean any = next.isEmpty() && misere;
                    for (long[] p : next) any |= !won[(int) p[0]][(int) p[1]][(int) p[2]];
                    won[a][b][c] = any;
                }
            }
        }
        return won;
    }

    /** Whether each n, b of TIMES t with n up to most is WON; bounds above most are as most. */
    static boolean[][] wonOfTimes(int t, int most) {
        boolean[][] won = new boolean[most + 1][most + 1];
        for (int n = 0; n <= most; n++) {
            for (int b = 0; b <= most; b++) {
                boolean any = false;
                for (long[] p : moves(2, t, n, 0, 0, b)) any |= !won[(int) p[0]][(int) Math.min(most, p[3])];
                won[n][b] = any;
            }
        }
        return won;
    }

    /** k times half of 1 and the square root of 5, cut to a whole number. */
    static long cut(long k) {
        BigInteger big = BigInteger.valueOf(k);
        BigInteger root = big.multiply(big).multiply(BigInteger.valueOf(5)).sqrt();
        return big.add(root).shiftRight(1).longValueExact();
    }

    /** Whether a by b is more than half of 1 and the square root of 5: where (2 a - b) is more than b times the root. */
    static boolean isAboveGolden(long a, long b) {
        BigInteger left = BigInteger.valueOf(2 * a - b);
        BigInteger right = BigInteger.valueOf(b);
        return left.signum() > 0 && left.multiply(left).compareTo(right.multiply(right).multiply(BigInteger.valueOf(5))) > 0;
    }

    /** THE ROW for t up to the greatest heap, each number by the document's words. */
    static List<Long> theRow(int t) {
        List<Long> numbers = new ArrayList<>();
        long h = 1;
        while (h <= Due.GREATEST) {
            numbers.add(h);
            long least = h;
            for (long m : numbers) {
                if (t * m >= h) least = Math.min(least, m);
            }
            h += least;
        }
        return numbers;
    }

    /** The numbers that n is a sum of by the row, the greatest first. */
    static List<Long> sum(List<Long> numbers, long n) {
        List<Long> parts = new ArrayList<>();
        long left = n;
        while (left > 0) {
            long best = 0;
            for (long m : numbers) {
                if (m <= left) best = Math.max(best, m);
            }
            parts.add(best);
            left -= best;
        }
        return parts;
    }
}
