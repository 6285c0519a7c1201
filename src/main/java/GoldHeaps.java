/**
 * Games on heaps, judged for heaps of any length by shares and digits, and for short heaps by going over all places.
 * The numbered promises that the comments name are those of the project's document.
 */
public final class GoldHeaps {
    public static final int NONE = -1, BAD = -2, NO = -3;

    private static final int SHARES = 0, BOTH = 1, TIMES = 2, THREE = 3;
    private static final long GREATEST = 1000000000000L;
    private static final long MOST_LOST = 300000000000L;
    private static final int MOST_T = 9;
    private static final int MOST_BY_ALL = 60, MOST_OF_THREE = 10;
    private static final int MOST_MOVES = 200;
    private static final int ABOUTS = 9;
    private static final long DIGEST_START = 227;

    private final Judge judge;
    private final Play play;

    public GoldHeaps() {
        judge = new Judge();
        play = new Play(judge);
    }

    // ---- told for any length

    public int shares(long a, long b) {
        if (!isHeap(a) || !isHeap(b)) {
            return BAD;
        }
        return oneIf(judge.sharesGame.isWon(a, b));
    }

    public long sharesMove(long a, long b) {
        if (!isHeap(a) || !isHeap(b)) {
            return BAD;
        }
        return judge.sharesGame.leastTimes(a, b);
    }

    public int both(long a, long b) {
        if (!isHeap(a) || !isHeap(b)) {
            return BAD;
        }
        return oneIf(judge.bothGame.isWon(a, b));
    }

    public long bothMove(long a, long b, int what) {
        if (!isHeap(a) || !isHeap(b) || !isWithin(what, 0, 1)) {
            return BAD;
        }
        int which = judge.bothGame.whichWins(a, b);
        return what == 0 ? which : judge.bothGame.howMany(a, b, which);
    }

    public long lost(long k, int what) {
        if (!isWithin(k, 0, MOST_LOST) || !isWithin(what, 0, 1)) {
            return BAD;
        }
        long lesser = judge.golden.cut(k);
        return what == 0 ? lesser : lesser + k;
    }

    public long lostOf(long h, int what) {
        if (!isHeap(h) || !isWithin(what, 0, 1)) {
            return BAD;
        }
        return what == 0 ? judge.golden.indexOf(h) : oneIf(judge.golden.isLesser(h));
    }

    public long row(int t, int i) {
        if (!isFactor(t) || i < 0) {
            return BAD;
        }
        return judge.timesGame.sumsBy(t).numberAt(i);
    }

    public int digits(int t, long n) {
        if (!isFactor(t) || !isHeap(n)) {
            return BAD;
        }
        return judge.timesGame.sumsBy(t).countOf(n);
    }

    public long last(int t, long n) {
        if (!isFactor(t) || !isWithin(n, 1, GREATEST)) {
            return BAD;
        }
        return judge.timesGame.sumsBy(t).endOf(n);
    }

    public int times(int t, long n, long b) {
        if (!isFactor(t) || !isHeap(n) || !isHeap(b)) {
            return BAD;
        }
        return oneIf(judge.timesGame.isWon(t, n, b));
    }

    public long timesMove(int t, long n, long b) {
        if (!isFactor(t) || !isHeap(n) || !isHeap(b)) {
            return BAD;
        }
        return judge.timesGame.leastTaken(t, n, b);
    }

    // ---- by all

    public int byAll(int game, boolean misere, int a, int b, int c) {
        // What may be gone over is just what a MISERE board may hold.
        if (!areHeapsOf(game, true, a, b, c)) {
            return BAD;
        }
        return oneIf(!judge.tableOf(game, misere).has(a, b, c));
    }

    public int lostUpTo(int game, boolean misere, int m) {
        if (!isWithin(m, 1, mostByAll(game))) {
            return BAD;
        }
        return judge.tableOf(game, misere).countUpTo(m);
    }

    public int timesByAll(int t, int n, int b) {
        if (!isFactor(t) || !isWithin(n, 0, MOST_BY_ALL) || !isWithin(b, 0, MOST_BY_ALL)) {
            return BAD;
        }
        return oneIf(TimesGame.isWonByAll(t, n, b));
    }

    // ---- the board

    public int board(int game, boolean misere, long a, long b, long c) {
        if (!areHeapsOf(game, misere, a, b, c)) {
            return BAD;
        }
        play.begin(game, misere, a, b, c);
        return 1;
    }

    public int move(int which, long many) {
        if (!isWithin(which, 0, play.ways() - 1)) {
            return BAD;
        }
        if (!play.mayTake(which, many)) {
            return NO;
        }
        play.take(which, many);
        return play.isOver() ? 2 : 1;
    }

    public int undo() {
        return play.takeBack() ? play.movesMade() : NO;
    }

    public long about(int what) {
        return play.tell(what);
    }

    public long digest() {
        long h = DIGEST_START;
        for (int what = 0; what < ABOUTS; what++) {
            h = 31 * h + play.tell(what);
        }
        return h;
    }

    // ---- what the numbers told may be

    private static boolean isWithin(long n, long least, long most) {
        return n >= least && n <= most;
    }

    /** Whether n may be a heap; bounds have the same limits. */
    private static boolean isHeap(long n) {
        return isWithin(n, 0, GREATEST);
    }

    private static boolean isFactor(long t) {
        return isWithin(t, 1, MOST_T);
    }

    /** The greatest heap of a GAME gone over by all; -1 where no heap is. */
    private static int mostByAll(int game) {
        if (game == SHARES || game == BOTH) {
            return MOST_BY_ALL;
        }
        return game == THREE ? MOST_OF_THREE : -1;
    }

    private static boolean areHeapsOf(int game, boolean misere, long a, long b, long c) {
        switch (game) {
            case SHARES:
            case BOTH:
                long most = misere ? MOST_BY_ALL : GREATEST;
                return isWithin(a, 0, most) && isWithin(b, 0, most);
            case TIMES:
                return !misere && isHeap(a) && isFactor(b);
            case THREE:
                return isWithin(a, 0, MOST_OF_THREE) && isWithin(b, 0, MOST_OF_THREE) && isWithin(c, 0, MOST_OF_THREE);
            default:
                return false;
        }
    }

    private static int oneIf(boolean yes) {
        return yes ? 1 : 0;
    }

    /** THE ROW for one t, and the sums of heaps by it. */
    private static final class Sums {
        /** The longest row, of t = 9, has 233 numbers up to the greatest heap. */
        private static final int ROOM = 240;

        private final long[] numbers = new long[ROOM];
        /** How many numbers stand; the last of them, alone, is above the greatest heap. */
        private final int size;

        Sums(int t) {
            numbers[0] = 1;
            int filled = 1;
            int added = 0;
            while (filled < ROOM && numbers[filled - 1] <= GREATEST) {
                long h = numbers[filled - 1];
                // The number to add never falls back as h grows, so the search goes on from where it stood.
                while (added < filled - 1 && t * numbers[added] < h) {
                    added++;
                }
                numbers[filled] = h + numbers[added];
                filled++;
            }
            size = filled;
        }

        long numberAt(int i) {
            return i >= 0 && i < size && numbers[i] <= GREATEST ? numbers[i] : NONE;
        }

        // What is left behind a number of the row is less than that number,
        // so in each sum below a number stands once at the most, and one way down the row is enough.

        int countOf(long n) {
            long left = n;
            int count = 0;
            for (int i = size - 1; i >= 0; i--) {
                if (numbers[i] <= left) {
                    left -= numbers[i];
                    count++;
                }
            }
            return count;
        }

        /** The LAST of n; 0 of 0. */
        long endOf(long n) {
            long left = n;
            long end = 0;
            for (int i = size - 1; i >= 0; i--) {
                if (numbers[i] <= left) {
                    left -= numbers[i];
                    end = numbers[i];
                }
            }
            return end;
        }

        /** The sum of n with, for each number in it, the one that comes behind it in the row. */
        long raised(long n) {
            long left = n;
            long sum = 0;
            for (int i = size - 2; i >= 0; i--) {
                if (numbers[i] <= left) {
                    left -= numbers[i];
                    sum += numbers[i + 1];
                }
            }
            return sum;
        }
    }

    /** The golden cut, and the pairs of heaps that it makes: the LOST places of BOTH. */
    private static final class Golden {
        private final Sums fibonacci;

        /** The row of TIMES 2 is that of Fibonacci; doubles or roots would not be exact here. */
        Golden(Sums rowOfTwo) {
            fibonacci = rowOfTwo;
        }

        /** The greatest whole number no more than k times half of 1 and the square root of 5: x(k). */
        long cut(long k) {
            return k <= 0 ? 0 : 1 + fibonacci.raised(k - 1);
        }

        boolean isLesser(long h) {
            return cut(indexIfLesser(h)) == h;
        }

        /** Which pair it is that has h. */
        long indexOf(long h) {
            return isLesser(h) ? indexIfLesser(h) : 2 * h - cut(h);
        }

        long partnerOf(long h) {
            return isLesser(h) ? h + indexIfLesser(h) : cut(h) - h;
        }

        /** The only pair in which h could be the lesser heap: the first whose lesser heap is h or more. */
        private long indexIfLesser(long h) {
            return h <= 0 ? 0 : cut(h) - h + 1;
        }
    }

    /** SHARES for heaps of any length. */
    private static final class SharesGame {
        private final Golden golden;

        SharesGame(Golden golden) {
            this.golden = golden;
        }

        boolean isWon(long a, long b) {
            long greater = Math.max(a, b);
            long lesser = Math.min(a, b);
            return lesser > 0 && (greater == lesser || greater > golden.cut(lesser));
        }

        /** How many times the lesser heap the least winning move takes; 0: none is. */
        long leastTimes(long a, long b) {
            long greater = Math.max(a, b);
            long lesser = Math.min(a, b);
            if (lesser <= 0) {
                return 0;
            }
            long most = greater / lesser;
            // Taking less than most - 1 times leaves two times the lesser heap or more: WON for the other one.
            for (long many = Math.max(1, most - 1); many <= most; many++) {
                if (!isWon(greater - many * lesser, lesser)) {
                    return many;
                }
            }
            return 0;
        }
    }

    /** BOTH for heaps of any length. */
    private static final class BothGame {
        private final Golden golden;

        BothGame(Golden golden) {
            this.golden = golden;
        }

        boolean isWon(long a, long b) {
            return lesserLostAlong(a, b) != Math.min(a, b);
        }

        /** Which heap a winning move takes from: 0 a, 1 b, 2 both; NONE: none is. */
        int whichWins(long a, long b) {
            // Each heap is in one LOST place alone, and so is each difference: of each kind one move at the most wins.
            if (golden.partnerOf(b) < a) {
                return 0;
            }
            if (golden.partnerOf(a) < b) {
                return 1;
            }
            return lesserLostAlong(a, b) < Math.min(a, b) ? 2 : NONE;
        }

        long howMany(long a, long b, int which) {
            switch (which) {
                case 0:
                    return a - golden.partnerOf(b);
                case 1:
                    return b - golden.partnerOf(a);
                case 2:
                    return Math.min(a, b) - lesserLostAlong(a, b);
                default:
                    return 0;
            }
        }

        /** The lesser heap of the LOST place whose heaps are as far apart as a and b. */
        private long lesserLostAlong(long a, long b) {
            return golden.cut(Math.abs(a - b));
        }
    }

    /** TIMES for each t. */
    private static final class TimesGame {
        /** More than any bound that can come up in going over all. */
        private static final int ABOVE_BOUNDS = MOST_T * MOST_BY_ALL + 1;

        private final Sums[] sumsMade = new Sums[MOST_T + 1];

        /** Made when first asked for and then kept, as few objects ever need all of them. */
        Sums sumsBy(int t) {
            int at = t >= 1 && t <= MOST_T ? t : 1;
            Sums sums = sumsMade[at];
            if (sums == null) {
                sums = new Sums(at);
                sumsMade[at] = sums;
            }
            return sums;
        }

        boolean isWon(int t, long n, long b) {
            return leastTaken(t, n, b) > 0;
        }

        /** The least winning move is the LAST: with a bound below it the place is LOST, so no lesser one wins. */
        long leastTaken(int t, long n, long b) {
            long end = sumsBy(t).endOf(n);
            return end <= b ? end : 0;
        }

        static boolean isWonByAll(int t, int n, int b) {
            int[] least = new int[MOST_BY_ALL + 1];
            // No bound is enough to win at an empty heap.
            least[0] = ABOVE_BOUNDS;
            for (int heap = 1; heap <= n && heap <= MOST_BY_ALL; heap++) {
                int taken = 1;
                while (taken < heap && least[heap - taken] <= t * taken) {
                    taken++;
                }
                least[heap] = taken;
            }
            return isWithin(n, 0, MOST_BY_ALL) && b >= least[n];
        }
    }

    /** The LOST places of SHARES, BOTH or THREE with short heaps, found by going over all. */
    private static final class LostTable {
        private static final int SIDE = MOST_BY_ALL + 1, SIDE_OF_THREE = MOST_OF_THREE + 1;

        private final boolean ofThree;
        /** For each first heap (of THREE: each two first heaps) the LOST last heaps, a bit for each. */
        private final long[] lines;

        LostTable(int game, boolean misere) {
            ofThree = game == THREE;
            lines = new long[ofThree ? SIDE_OF_THREE * SIDE_OF_THREE : SIDE];
            if (ofThree) {
                fillThree(lines, misere);
            } else if (game == BOTH) {
                fillBoth(lines, misere);
            } else {
                fillShares(lines, misere);
            }
        }

        boolean has(int a, int b, int c) {
            int line = ofThree ? a * SIDE_OF_THREE + b : a;
            int last = ofThree ? c : b;
            return line >= 0 && line < lines.length && (lines[line] >>> last & 1) == 1;
        }

        int countUpTo(int m) {
            long upToM = (1L << (m + 1)) - 1;
            int count = 0;
            for (int line = 0; line < lines.length; line++) {
                int first = ofThree ? line / SIDE_OF_THREE : line;
                int second = ofThree ? line % SIDE_OF_THREE : 0;
                if (first <= m && second <= m) {
                    count += Long.bitCount(lines[line] & upToM);
                }
            }
            return count;
        }

        private static void fillShares(long[] lines, boolean misere) {
            for (int a = 0; a < SIDE; a++) {
                for (int b = 0; b < SIDE; b++) {
                    int lesser = Math.min(a, b);
                    // The order of heaps does not matter, and the line of the lesser heap stands as far as is needed.
                    boolean won = lesser == 0 ? misere : sharesReach(lines[lesser], Math.max(a, b), lesser);
                    if (!won) {
                        lines[a] |= 1L << b;
                    }
                }
            }
        }

        private static boolean sharesReach(long lostByLesser, int greater, int lesser) {
            for (int left = greater - lesser; lesser > 0 && left >= 0; left -= lesser) {
                if ((lostByLesser >>> left & 1) == 1) {
                    return true;
                }
            }
            return false;
        }

        private static void fillBoth(long[] lines, boolean misere) {
            long byFirst = 0;
            long byBoth = 0;
            for (int a = 0; a < SIDE; a++) {
                lines[a] = lostInLine(byFirst | byBoth, SIDE, misere && a == 0);
                byFirst |= lines[a];
                byBoth = (byBoth | lines[a]) << 1;
            }
        }

        private static void fillThree(long[] lines, boolean misere) {
            for (int a = 0; a < SIDE_OF_THREE; a++) {
                for (int b = 0; b < SIDE_OF_THREE; b++) {
                    int line = a * SIDE_OF_THREE + b;
                    lines[line] = lostInLine(wonByTaking(lines, a, b), SIDE_OF_THREE, misere && line == 0);
                }
            }
        }

        /** The last heaps at which THREE is WON by taking from the first heap, the second, or all. */
        private static long wonByTaking(long[] lines, int a, int b) {
            int line = a * SIDE_OF_THREE + b;
            long won = 0;
            for (int taken = 1; taken <= a; taken++) {
                won |= lines[line - taken * SIDE_OF_THREE];
            }
            for (int taken = 1; taken <= b; taken++) {
                won |= lines[line - taken];
            }
            for (int taken = 1; taken <= a && taken <= b; taken++) {
                won |= lines[line - taken * SIDE_OF_THREE - taken] << taken;
            }
            return won;
        }

        /**
         * The LOST last heaps of a line: the least one that is not won otherwise, alone,
         * as it is reached from all behind it by taking from the last heap.
         */
        private static long lostInLine(long wonOtherwise, int side, boolean emptyWins) {
            long won = emptyWins ? wonOtherwise | 1 : wonOtherwise;
            long open = ~won & (1L << side) - 1;
            return open & -open;
        }
    }

    /** Tells of each game whether a place is WON. */
    private static final class Judge {
        private final TimesGame timesGame;
        private final Golden golden;
        private final SharesGame sharesGame;
        private final BothGame bothGame;
        private final LostTable[] tablesMade = new LostTable[2 * (THREE + 1)];

        Judge() {
            timesGame = new TimesGame();
            golden = new Golden(timesGame.sumsBy(2));
            sharesGame = new SharesGame(golden);
            bothGame = new BothGame(golden);
        }

        /** Made when first asked for and then kept: going over all is the dearest work here. */
        LostTable tableOf(int game, boolean misere) {
            int at = 2 * (isWithin(game, SHARES, THREE) ? game : BOTH) + oneIf(misere);
            LostTable table = tablesMade[at];
            if (table == null) {
                table = new LostTable(game, misere);
                tablesMade[at] = table;
            }
            return table;
        }
    }

    /** The BOARD: a place, and the moves that led there. */
    private static final class Play {
        private static final int HEAPS = 3;

        private final Judge judge;
        private final long[] heaps = new long[HEAPS];
        private final int[] whichMoved = new int[MOST_MOVES];
        private final long[] manyTaken = new long[MOST_MOVES];
        private final boolean[] wasFault = new boolean[MOST_MOVES];
        private int game = BOTH;
        private boolean misere;
        private int t;
        private int made;

        Play(Judge judge) {
            this.judge = judge;
        }

        void begin(int newGame, boolean newMisere, long a, long b, long c) {
            game = newGame;
            misere = newMisere;
            t = game == TIMES ? (int) b : 0;
            heaps[0] = a;
            heaps[1] = game == TIMES ? 0 : b;
            heaps[2] = game == THREE ? c : 0;
            made = 0;
        }

        int movesMade() {
            return made;
        }

        /** How many kinds of move the GAME has: one for each heap, and one for all of them where that may be. */
        int ways() {
            return game == BOTH || game == THREE ? heapCount() + 1 : heapCount();
        }

        boolean mayTake(int which, long many) {
            if (made >= MOST_MOVES || many < 1) {
                return false;
            }
            for (int heap = 0; heap < heapCount(); heap++) {
                if (takesFrom(which, heap) && many > heaps[heap]) {
                    return false;
                }
            }
            if (game == SHARES) {
                // A multiple of the other heap that is there to be taken can only be of the greater one, or of two alike.
                long other = heaps[which == 0 ? 1 : 0];
                return other > 0 && many % other == 0;
            }
            return game != TIMES || many <= bound();
        }

        void take(int which, long many) {
            if (made >= MOST_MOVES) {
                return;
            }
            boolean wonAhead = isWon();
            whichMoved[made] = which;
            manyTaken[made] = many;
            addToHeaps(which, -many);
            made++;
            wasFault[made - 1] = wonAhead && isWon();
        }

        /** False where no move was made. */
        boolean takeBack() {
            if (made <= 0) {
                return false;
            }
            made--;
            addToHeaps(whichMoved[made], manyTaken[made]);
            return true;
        }

        boolean isOver() {
            if (game == SHARES) {
                return heaps[0] == 0 || heaps[1] == 0;
            }
            if (game == TIMES) {
                return heaps[0] == 0 || bound() == 0;
            }
            return heaps[0] == 0 && heaps[1] == 0 && heaps[2] == 0;
        }

        long tell(int what) {
            switch (what) {
                case 0:
                case 1:
                case 2:
                    return heaps[what];
                case 3:
                    return bound();
                case 4:
                    return made;
                case 5:
                    return oneIf(isWon());
                case 6:
                    return made % 2;
                case 7:
                    return faults();
                case 8:
                    return game;
                default:
                    return BAD;
            }
        }

        private int heapCount() {
            if (game == THREE) {
                return 3;
            }
            return game == TIMES ? 1 : 2;
        }

        private boolean takesFrom(int which, int heap) {
            return which == heap || which == heapCount();
        }

        private void addToHeaps(int which, long many) {
            for (int heap = 0; heap < heapCount(); heap++) {
                if (takesFrom(which, heap)) {
                    heaps[heap] += many;
                }
            }
        }

        /** Told by the last move, so that taking a move back needs no bound kept. */
        private long bound() {
            if (game != TIMES) {
                return 0;
            }
            return made == 0 ? Math.max(0, heaps[0] - 1) : Math.min(GREATEST, t * manyTaken[made - 1]);
        }

        private boolean isWon() {
            if (game == TIMES) {
                return judge.timesGame.isWon(t, heaps[0], bound());
            }
            if (misere || game == THREE) {
                return !judge.tableOf(game, misere).has((int) heaps[0], (int) heaps[1], (int) heaps[2]);
            }
            return game == SHARES ? judge.sharesGame.isWon(heaps[0], heaps[1]) : judge.bothGame.isWon(heaps[0], heaps[1]);
        }

        private int faults() {
            int count = 0;
            for (int i = 0; i < made; i++) {
                if (wasFault[i]) {
                    count++;
                }
            }
            return count;
        }
    }
}
