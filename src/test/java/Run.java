import java.lang.reflect.InvocationTargetException;
import java.lang.reflect.Method;
import java.util.ArrayList;
import java.util.HashMap;
import java.util.List;
import java.util.Map;

/**
 * A run of calls on one new object, each told as a text such as "board(2, false, 21, 2, 0)".
 * In a text MOST is the greatest heap, ABOVE the one behind it, MIN and MAX are the ends of the parameter's type.
 */
final class Run {
    /** Of more moves than these the digest is not asked at each, to keep within 512 calls. */
    private static final int FEW = 20;

    /** Boards on which a refused call is tried: a new one, and of each game one on which something has happened. */
    private static final String[][] STATES = {
        {},
        {"board(0, false, 100, 7, 0)", "move(0, 14)", "move(0, 77)"},
        {"board(0, true, 13, 5, 0)", "move(0, 5)"},
        {"board(1, false, 20, 30, 0)", "move(2, 3)", "move(0, 4)", "move(1, 1)"},
        {"board(1, true, 2, 2, 0)", "move(2, 2)"},
        {"board(2, false, 40, 3, 0)", "move(0, 7)", "move(0, 5)", "move(0, 2)"},
        {"board(3, false, 9, 8, 7)", "move(3, 2)", "move(1, 5)"},
        {"board(3, true, 4, 5, 6)", "move(0, 1)", "move(3, 1)"}};

    /** What calls behind a refused one are asked, but for the moves taken back. */
    private static final String[] LATER = {
        "about(0)", "about(1)", "about(2)", "about(3)", "about(4)", "about(5)", "about(6)", "about(7)", "about(8)", "digest()",
        "shares(13, 8)", "sharesMove(23, 5)", "both(4, 7)", "bothMove(4, 6, 1)", "lost(7, 1)", "lostOf(11, 0)", "row(3, 9)",
        "digits(2, 100)", "last(4, 39)", "times(2, 20, 3)", "timesMove(5, 64, 63)",
        "byAll(0, true, 9, 5, 0)", "byAll(1, true, 3, 3, 0)", "byAll(3, true, 1, 2, 3)", "lostUpTo(1, false, 60)", "timesByAll(5, 22, 3)",
        "move(0, 1)", "move(1, 1)", "move(2, 1)", "move(3, 1)", "move(0, 6)", "digest()"};

    private static final Map<String, Method> METHODS = new HashMap<>();

    static {
        for (Method m : GoldHeaps.class.getMethods()) {
            if (m.getDeclaringClass() == GoldHeaps.class) METHODS.put(m.getName(), m);
        }
    }

    private final GoldHeaps x = new GoldHeaps();
    private final List<String> made = new ArrayList<>();

    Run due(String call, long want) {
        made.add(call);
        Due.due(Says.now() + told(made), answer(x, call), want);
        return this;
    }

    /** The same answer for each of several calls. */
    Run due(long want, String... calls) {
        for (String call : calls) due(call, want);
        return this;
    }

    /** about(0) to about(8), and the digest of them. */
    Run abouts(long... wants) {
        long h = 227;
        for (int what = 0; what < 9; what++) {
            due("about(" + what + ")", wants[what]);
            h = 31 * h + wants[what];
        }
        return due("digest()", h);
    }

    int calls() {
        return made.size();
    }

    /** Calls made whose answers other tests look at. */
    Run then(String... calls) {
        for (String call : calls) {
            made.add(call);
            answer(x, call);
        }
        return this;
    }

    /** Calls that answer BAD or NO and change nothing: later calls answer as if they had never been made. */
    Run refused(long want, String... calls) {
        for (String call : calls) {
            String label = Says.now() + told(made) + " then " + call;
            GoldHeaps with = after(made);
            Due.due(label, answer(with, call), want);
            sameLater(label, with, after(made));
        }
        return this;
    }

    /** Calls that only ask: on each of the boards of STATES later calls answer as if they had never been made. */
    static void changesNothing(String... calls) {
        for (String[] state : STATES) {
            List<String> ahead = List.of(state);
            for (String call : calls) {
                GoldHeaps with = after(ahead);
                answer(with, call);
                sameLater(Says.now() + told(ahead) + " then " + call, with, after(ahead));
            }
        }
    }

    private static void sameLater(String label, GoldHeaps with, GoldHeaps without) {
        boolean same = true;
        for (String later : LATER) same &= sameBehind(label, with, without, later);
        long moves = answer(without, "about(4)");
        for (long i = 0; i < moves && same; i++) {
            same = sameBehind(label, with, without, "undo()") && (moves > FEW || sameBehind(label, with, without, "digest()"));
        }
        sameBehind(label, with, without, "digest()");
    }

    private static boolean sameBehind(String label, GoldHeaps with, GoldHeaps without, String later) {
        long want = answer(without, later);
        long got = answer(with, later);
        Due.due(label + ", later " + later, got, want);
        return got == want;
    }

    /** BAD on each of the boards of STATES, changing nothing there. */
    static void badAnywhere(String... calls) {
        for (String[] state : STATES) new Run().then(state).refused(GoldHeaps.BAD, calls);
    }

    private static GoldHeaps after(List<String> calls) {
        GoldHeaps other = new GoldHeaps();
        for (String call : calls) answer(other, call);
        return other;
    }

    private static String told(List<String> calls) {
        int from = Math.max(0, calls.size() - 6);
        return (from > 0 ? ".. " : "") + String.join(" ", calls.subList(from, calls.size()));
    }

    static long answer(GoldHeaps x, String call) {
        int open = call.indexOf('(');
        Method m = METHODS.get(call.substring(0, open));
        String inside = call.substring(open + 1, call.length() - 1);
        String[] texts = inside.isEmpty() ? new String[0] : inside.split(", ");
        Class<?>[] types = m.getParameterTypes();
        Object[] values = new Object[texts.length];
        for (int i = 0; i < texts.length; i++) values[i] = value(types[i], texts[i]);
        try {
            return ((Number) m.invoke(x, values)).longValue();
        } catch (IllegalAccessException | InvocationTargetException e) {
            throw new IllegalStateException(call + " threw " + e.getCause(), e);
        }
    }

    private static Object value(Class<?> type, String text) {
        if (type == boolean.class) return text.equals("true");
        boolean isInt = type == int.class;
        long number = switch (text) {
            case "MOST" -> Due.GREATEST;
            case "ABOVE" -> Due.GREATEST + 1;
            case "MIN" -> isInt ? Integer.MIN_VALUE : Long.MIN_VALUE;
            case "MAX" -> isInt ? Integer.MAX_VALUE : Long.MAX_VALUE;
            default -> Long.parseLong(text);
        };
        if (isInt) return Math.toIntExact(number);
        return number;
    }
}
