import com.sun.management.ThreadMXBean;
import java.lang.management.ManagementFactory;
import java.util.Random;

/** No call throws, for any arguments in any state; and a run's calls keep within the room. */
public final class AnyCallTest {
    private static final long[] EDGES = {
        Long.MIN_VALUE, Integer.MIN_VALUE, -1, 0, 1, 2, 3, 9, 10, 11, 59, 60, 61, 199, 200, 239, 240, 241,
        300_000_000_000L, 300_000_000_001L, 618_033_988_749L, 618_033_988_750L, Due.GREATEST - 1, Due.GREATEST, Due.GREATEST + 1,
        Integer.MAX_VALUE, Long.MAX_VALUE, Long.MAX_VALUE / 2, 1L << 32, (1L << 32) + 5};
    private static final int CALLS = 512;
    /** 7.3 million elements are due in all, of 8 bytes at the most; a tenth of that is plenty for one object. */
    private static final long ROOM = 8 * 7_300_000L / 10;

    public static void main(String[] args) {
        for (int seed = 0; seed < 1000; seed++) anyRun(seed);
        room();
        Due.end();
    }

    private static void anyRun(int seed) {
        Random random = new Random(seed);
        GoldHeaps x = new GoldHeaps();
        String state = "seed " + seed;
        try {
            for (int i = 0; i < CALLS; i++) anyCall(x, random, random.nextInt(24));
            Due.holds(state, true);
        } catch (RuntimeException e) {
            e.printStackTrace(System.out);
            Due.holds(state + " throws " + e, false);
        }
    }

    private static long edge(Random random) {
        return random.nextInt(3) == 0 ? random.nextInt(70) : EDGES[random.nextInt(EDGES.length)];
    }

    private static int few(Random random) {
        return random.nextInt(8) == 0 ? (int) edge(random) : random.nextInt(12) - 1;
    }

    private static long anyCall(GoldHeaps x, Random random, int kind) {
        long a = edge(random), b = edge(random), c = edge(random);
        int t = few(random), what = few(random);
        boolean misere = random.nextBoolean();
        switch (kind) {
            case 0: return x.shares(a, b);
            case 1: return x.sharesMove(a, b);
            case 2: return x.both(a, b);
            case 3: return x.bothMove(a, b, what);
            case 4: return x.lost(a, what);
            case 5: return x.lostOf(a, what);
            case 6: return x.row(t, (int) a);
            case 7: return x.digits(t, a);
            case 8: return x.last(t, a);
            case 9: return x.times(t, a, b);
            case 10: return x.timesMove(t, a, b);
            case 11: return x.byAll(what, misere, (int) a, (int) b, (int) c);
            case 12: return x.lostUpTo(what, misere, (int) a);
            case 13: return x.timesByAll(t, (int) a, (int) b);
            case 14: return x.board(what, misere, a, b, c);
            case 15: return x.board(random.nextInt(4), misere, random.nextInt(11), random.nextInt(9) + 1, random.nextInt(11));
            case 16: return x.undo();
            case 17: return x.about(what);
            case 18: return x.digest();
            case 19: return x.move(what, a);
            default: return x.move(random.nextInt(4), 1 + random.nextInt(3));
        }
    }

    private static void room() {
        ThreadMXBean threads = (ThreadMXBean) ManagementFactory.getThreadMXBean();
        long me = Thread.currentThread().getId();
        long sum = 0;
        long before = threads.getThreadAllocatedBytes(me);
        GoldHeaps x = new GoldHeaps();
        for (int i = 0; i < CALLS; i++) {
            int t = 1 + i % 9;
            boolean misere = i % 2 == 0;
            switch (i % 4) {
                case 0: sum += x.timesByAll(t, 60, 60); break;
                case 1: sum += x.lostUpTo(i % 3 == 2 ? 3 : i % 3, misere, 10); break;
                case 2: sum += x.timesMove(t, Due.GREATEST, Due.GREATEST); break;
                default: sum += x.digest();
            }
        }
        long used = threads.getThreadAllocatedBytes(me) - before;
        Due.holds("512 calls make " + used + " bytes (" + sum + ")", used <= ROOM);
        before = threads.getThreadAllocatedBytes(me);
        for (int i = 0; i < CALLS; i++) sum += new GoldHeaps().about(8);
        used = threads.getThreadAllocatedBytes(me) - before;
        Due.holds("512 objects make " + used + " bytes (" + sum + ")", used <= ROOM);
    }
}
