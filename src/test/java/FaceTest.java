import java.io.IOException;
import java.lang.reflect.Constructor;
import java.lang.reflect.Field;
import java.lang.reflect.Method;
import java.lang.reflect.Modifier;
import java.nio.file.Files;
import java.nio.file.Path;
import java.util.Arrays;
import java.util.Set;
import java.util.TreeSet;
import java.util.regex.Matcher;
import java.util.regex.Pattern;

/** The document's face, and those rules of LANGUAGE.md that a look at the source can tell. */
public final class FaceTest {
    private static final String[] FACE = {
        "int shares(long, long)", "long sharesMove(long, long)", "int both(long, long)", "long bothMove(long, long, int)",
        "long lost(long, int)", "long lostOf(long, int)", "long row(int, int)", "int digits(int, long)", "long last(int, long)",
        "int times(int, long, long)", "long timesMove(int, long, long)", "int byAll(int, boolean, int, int, int)",
        "int lostUpTo(int, boolean, int)", "int timesByAll(int, int, int)", "int board(int, boolean, long, long, long)",
        "int move(int, long)", "int undo()", "long about(int)", "long digest()"};

    public static void main(String[] args) throws IOException {
        constants();
        members();
        document();
        nested();
        source(Files.readString(Path.of("src/main/java/GoldHeaps.java")));
        Due.end();
    }

    private static void constants() {
        Due.due("NONE", GoldHeaps.NONE, -1);
        Due.due("BAD", GoldHeaps.BAD, -2);
        Due.due("NO", GoldHeaps.NO, -3);
    }

    private static void members() {
        Due.holds("public and final", GoldHeaps.class.getModifiers() == (Modifier.PUBLIC | Modifier.FINAL));
        Set<String> methods = new TreeSet<>();
        Set<String> publicNames = new TreeSet<>();
        for (Method m : GoldHeaps.class.getDeclaredMethods()) {
            if (Modifier.isPrivate(m.getModifiers()) || m.isSynthetic()) continue;
            Due.holds(m + " is public and no more", m.getModifiers() == Modifier.PUBLIC);
            String parameters = Arrays.toString(m.getParameterTypes());
            methods.add(m.getReturnType() + " " + m.getName() + "(" + parameters.substring(1, parameters.length() - 1) + ")");
            publicNames.add(m.getName());
        }
        Due.holds("the face is " + methods, methods.equals(new TreeSet<>(Arrays.asList(FACE))));
        for (Class<?> c : classes()) {
            for (Method m : c.getDeclaredMethods()) {
                boolean own = c != GoldHeaps.class || Modifier.isPrivate(m.getModifiers());
                Due.holds(m + " bears no public name", !own || !publicNames.contains(m.getName()));
                Due.holds(m + " has seven parameters at the most", m.getParameterCount() <= 7);
            }
        }
        Set<String> open = new TreeSet<>();
        for (Field f : GoldHeaps.class.getDeclaredFields()) {
            if (!Modifier.isPrivate(f.getModifiers())) open.add(f.getName());
        }
        Due.holds("the constants are " + open, open.equals(Set.of("NONE", "BAD", "NO")));
        Constructor<?>[] made = GoldHeaps.class.getDeclaredConstructors();
        Due.holds("one constructor", made.length == 1 && made[0].getParameterCount() == 0 && Modifier.isPublic(made[0].getModifiers()));
    }

    /** The calls listed above are the document's. */
    private static void document() throws IOException {
        Path path = Path.of("../shared/DOC.md");
        if (!Files.exists(path)) {
            System.out.println("  " + path + " is not here: the face was not looked up");
            return;
        }
        Set<String> told = new TreeSet<>();
        Matcher call = Pattern.compile("(?m)^ +public (\\w+ \\w+)\\((.*)\\);$").matcher(Files.readString(path));
        while (call.find()) told.add(call.group(1) + "(" + call.group(2).replaceAll("(\\w+) \\w+", "$1") + ")");
        Due.holds("the document's face is " + told, told.equals(new TreeSet<>(Arrays.asList(FACE))));
    }

    private static Class<?>[] classes() {
        Class<?>[] inside = GoldHeaps.class.getDeclaredClasses();
        Class<?>[] all = Arrays.copyOf(inside, inside.length + 1);
        all[inside.length] = GoldHeaps.class;
        return all;
    }

    private static void nested() {
        Due.holds("twelve classes at the most", classes().length <= 12);
        for (Class<?> c : classes()) {
            Due.holds(c + " is static", c == GoldHeaps.class || Modifier.isStatic(c.getModifiers()));
            int fields = 0;
            for (Field f : c.getDeclaredFields()) {
                boolean isStatic = Modifier.isStatic(f.getModifiers());
                Due.holds(f + " is final if static", !isStatic || Modifier.isFinal(f.getModifiers()));
                if (!isStatic) fields++;
            }
            Due.holds(c + " has twenty fields at the most", fields <= 20);
        }
    }

    private static void source(String text) {
        String code = text.replaceAll("(?s)/\\*.*?\\*/", "").replaceAll("//[^\n]*", "");
        String[] banned = {"import", "package", "throw", "throws", "try", "catch", "finally", "synchronized", "assert", "native",
            "protected", "Object", "Exception", "Thread", "double", "float", "hashCode", "toString", "\\w+Exact"};
        for (String word : banned) {
            Matcher found = Pattern.compile("\\b" + word + "\\b").matcher(code);
            Due.holds("no '" + word + "' in the source", !found.find());
        }
        Due.holds("no lambda, no method reference", !code.contains("->") && !code.contains("::"));
        Due.holds("no @", !code.contains("@"));
        Due.holds("plain signs alone", text.chars().allMatch(c -> c == '\n' || c >= 32 && c < 127));
        Matcher library = Pattern.compile("\\b(Math|Long|Integer|System|Arrays|String|StringBuilder)\\.(\\w+)").matcher(code);
        Set<String> allowed = Set.of("Math.max", "Math.min", "Math.abs", "Long.bitCount");
        while (library.find()) Due.holds(library.group() + " is one of the library's few", allowed.contains(library.group()));
        methodLengths(text);
    }

    /** The file's form puts a method's closing brace alone, as deep as its head. */
    private static void methodLengths(String text) {
        String[] lines = text.split("\n");
        Pattern head = Pattern.compile("( {4}| {8})(?! )(?!.*\\bclass\\b)[\\w\\[\\] ]+\\(.*\\) \\{");
        for (int i = 0; i < lines.length; i++) {
            Matcher m = head.matcher(lines[i]);
            if (!m.matches()) continue;
            int end = i;
            while (end < lines.length - 1 && !lines[end].equals(m.group(1) + "}")) end++;
            Due.holds(lines[i].trim() + " has sixty lines at the most", end - i + 1 <= 60);
        }
    }
}
