import java.util.List;
import java.util.Random;

/** Promises 8 (row), 9 (digits), 10 (last), 11 (times), 12 (timesMove) and 15 (timesByAll). */
public final class TimesTest {
    public static void main(String[] args) {
        for (int t = 1; t <= 9; t++) {
            rowByTheWords(t);
            shortHeapsAsByHand(t);
            longHeapsAsByTheRow(t);
        }
        edges();
        wrongNumbers();
        Due.end();
    }

    private static void rowByTheWords(int t) {
        List<Long> numbers = ByHand.theRow(t);
        for (int i = 0; i < numbers.size(); i++) {
            Due.due("row(" + t + ", " + i + ")", Due.any().row(t, i), numbers.get(i));
        }
        for (int i : new int[] {numbers.size(), numbers.size() + 1, 240, 241, 400, 1000, Integer.MAX_VALUE}) {
            Due.due("row(" + t + ", " + i + ")", Due.any().row(t, i), GoldHeaps.NONE);
        }
    }

    private static void shortHeapsAsByHand(int t) {
        int most = 130;
        boolean[][] won = ByHand.wonOfTimes(t, most);
        for (int n = 0; n <= most; n++) {
            for (int b = 0; b <= most; b++) {
                Due.due("times(" + t + ", " + n + ", " + b + ")", Due.any().times(t, n, b), won[n][b] ? 1 : 0);
                long least = 0;
                for (int x = Math.min(n, b); x >= 1; x--) {
                    if (!won[n - x][Math.min(most, t * x)]) least = x;
                }
                Due.due("timesMove(" + t + ", " + n + ", " + b + ")", Due.any().timesMove(t, n, b), least);
                int all = n <= 60 && b <= 60 ? (won[n][b] ? 1 : 0) : GoldHeaps.BAD;
                Due.due("timesByAll(" + t + ", " + n + ", " + b + ")", Due.any().timesByAll(t, n, b), all);
            }
        }
    }

    private static void longHeapsAsByTheRow(int t) {
        List<Long> numbers = ByHand.theRow(t);
        Random random = new Random(t);
        for (int i = 0; i < 300; i++) {
            oneHeap(t, numbers, 1 + (long) (random.nextDouble() * Due.GREATEST));
            oneHeap(t, numbers, 1 + random.nextInt(100000));
            long number = numbers.get(random.nextInt(numbers.size()));
            for (long d = -1; d <= 1; d++) oneHeap(t, numbers, Math.max(1, number + d));
        }
        oneHeap(t, numbers, Due.GREATEST);
    }

    private static void oneHeap(int t, List<Long> numbers, long n) {
        List<Long> parts = ByHand.sum(numbers, n);
        long last = parts.get(parts.size() - 1);
        Due.due("digits(" + t + ", " + n + ")", Due.any().digits(t, n), parts.size());
        Due.due("last(" + t + ", " + n + ")", Due.any().last(t, n), last);
        for (long b : new long[] {0, last - 1, last, last + 1, n, Due.GREATEST}) {
            if (b > Due.GREATEST) continue;
            Due.due("times(" + t + ", " + n + ", " + b + ")", Due.any().times(t, n, b), b >= last ? 1 : 0);
            Due.due("timesMove(" + t + ", " + n + ", " + b + ")", Due.any().timesMove(t, n, b), b >= last ? last : 0);
        }
    }

    private static void edges() {
        for (int t = 1; t <= 9; t++) {
            Due.due("digits(" + t + ", 0)", Due.any().digits(t, 0), 0);
            Due.due("last(" + t + ", 1)", Due.any().last(t, 1), 1);
            Due.due("times(" + t + ", 0, most)", Due.any().times(t, 0, Due.GREATEST), 0);
            Due.due("times(" + t + ", 0, 0)", Due.any().times(t, 0, 0), 0);
            Due.due("timesMove(" + t + ", 0, most)", Due.any().timesMove(t, 0, Due.GREATEST), 0);
            Due.due("timesMove(" + t + ", most, 0)", Due.any().timesMove(t, Due.GREATEST, 0), 0);
            Due.due("timesByAll(" + t + ", 0, 0)", Due.any().timesByAll(t, 0, 0), 0);
            Due.due("timesByAll(" + t + ", 1, 1)", Due.any().timesByAll(t, 1, 1), 1);
        }
    }

    private static void wrongNumbers() {
        for (int t : new int[] {0, -1, 10, Integer.MIN_VALUE, Integer.MAX_VALUE}) {
            Due.due("row(" + t + ", 0)", Due.any().row(t, 0), GoldHeaps.BAD);
            Due.due("digits(" + t + ", 1)", Due.any().digits(t, 1), GoldHeaps.BAD);
            Due.due("last(" + t + ", 1)", Due.any().last(t, 1), GoldHeaps.BAD);
            Due.due("times(" + t + ", 1, 1)", Due.any().times(t, 1, 1), GoldHeaps.BAD);
            Due.due("timesMove(" + t + ", 1, 1)", Due.any().timesMove(t, 1, 1), GoldHeaps.BAD);
            Due.due("timesByAll(" + t + ", 1, 1)", Due.any().timesByAll(t, 1, 1), GoldHeaps.BAD);
        }
        for (long w : new long[] {-1, Due.GREATEST + 1, Long.MIN_VALUE, Long.MAX_VALUE}) {
            Due.due("digits(2, " + w + ")", Due.any().digits(2, w), GoldHeaps.BAD);
            Due.due("last(2, " + w + ")", Due.any().last(2, w), GoldHeaps.BAD);
            Due.due("times(2, " + w + ", 1)", Due.any().times(2, w, 1), GoldHeaps.BAD);
            Due.due("times(2, 1, " + w + ")", Due.any().times(2, 1, w), GoldHeaps.BAD);
            Due.due("timesMove(2, " + w + ", 1)", Due.any().timesMove(2, w, 1), GoldHeaps.BAD);
            Due.due("timesMove(2, 1, " + w + ")", Due.any().timesMove(2, 1, w), GoldHeaps.BAD);
        }
        for (int w : new int[] {-1, 61, Integer.MIN_VALUE, Integer.MAX_VALUE}) {
            Due.due("timesByAll(2, " + w + ", 1)", Due.any().timesByAll(2, w, 1), GoldHeaps.BAD);
            Due.due("timesByAll(2, 1, " + w + ")", Due.any().timesByAll(2, 1, w), GoldHeaps.BAD);
        }
        Due.due("last(2, 0)", Due.any().last(2, 0), GoldHeaps.BAD);
        Due.due("row(2, -1)", Due.any().row(2, -1), GoldHeaps.BAD);
        Due.due("row(2, least int)", Due.any().row(2, Integer.MIN_VALUE), GoldHeaps.BAD);
    }
}
