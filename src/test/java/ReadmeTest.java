import java.io.IOException;
import java.lang.reflect.Method;
import java.lang.reflect.Modifier;
import java.nio.file.Files;
import java.nio.file.Path;
import java.util.ArrayList;
import java.util.List;
import java.util.Set;
import java.util.TreeSet;
import java.util.regex.Matcher;
import java.util.regex.Pattern;

/** What README.md says of using the class and of running its tests holds, done as it stands there. */
public final class ReadmeTest {
    private static final Path README = Path.of("README.md"), TESTS = Path.of("src/test/java");
    private static final Pattern CALL_ROW = Pattern.compile("\\| `(x\\.(\\w+)\\(.*\\))` \\| `([\\w.-]+)` \\|.*");

    public static void main(String[] args) throws IOException, InterruptedException {
        String page = Files.readString(README);
        commands(page);
        calls(page);
        names(page);
        Due.end();
    }

    /** The texts of the page's blocks of one kind. */
    private static List<String> blocks(String page, String kind) {
        List<String> found = new ArrayList<>();
        Matcher block = Pattern.compile("(?s)\n```" + kind + "\n(.*?)\n```").matcher(page);
        while (block.find()) found.add(block.group(1));
        return found;
    }

    private static void commands(String page) throws IOException, InterruptedException {
        List<String> programs = blocks(page, "java"), commands = blocks(page, "sh"), prints = blocks(page, "text");
        Due.due("programs, commands and prints on the page", 100 * programs.size() + 10 * commands.size() + prints.size(), 131);
        if (Due.wrong() > 0) return;
        try (Folder folder = new Folder()) {
            folder.copy("src", "project");
            folder.write("project/Example.java", programs.get(0));
            Folder.Outcome example = folder.run("project", commands.get(0));
            Due.due("the example's exit code", example.code(), 0);
            Due.holds("the example prints:\n" + example.printed(), example.printed().equals(prints.get(0) + "\n"));
            Due.holds("all tests by .ci/run, which may be run", commands.get(1).equals(".ci/run") && Files.isExecutable(Path.of(".ci/run")));
            Folder.Outcome alone = folder.run("project", commands.get(2));
            Due.due("one test alone, exit code (it prints " + alone.printed() + ")", alone.code(), 0);
        }
    }

    /** The tables' calls, as they stand, in a program of their own. */
    private static void calls(String page) throws IOException, InterruptedException {
        StringBuilder program = new StringBuilder("public final class Calls {\n  public static void main(String[] args) {\n    GoldHeaps x = null;\n");
        Set<String> shown = new TreeSet<>();
        List<String> made = new ArrayList<>(), wants = new ArrayList<>();
        for (String line : page.split("\n")) {
            if (line.equals("| call | answers | that is |")) program.append("    x = new GoldHeaps();\n");
            Matcher row = CALL_ROW.matcher(line);
            Due.holds("a call's row has its form: " + line, row.matches() || !line.startsWith("| `x."));
            if (!row.matches()) continue;
            shown.add(row.group(2));
            made.add(row.group(1));
            wants.add(row.group(3).replace("GoldHeaps.NONE", "-1").replace("GoldHeaps.BAD", "-2").replace("GoldHeaps.NO", "-3"));
            program.append("    System.out.println(").append(row.group(1)).append(");\n");
        }
        program.append("  }\n}\n");
        Due.holds("each call of the face is shown: " + shown, shown.equals(face()));
        try (Folder folder = new Folder()) {
            folder.copy("src/main", "project");
            folder.write("project/Calls.java", program.toString());
            Folder.Outcome outcome = folder.run("project", "javac -d out src/main/java/GoldHeaps.java Calls.java\njava -cp out Calls");
            Due.due("the calls' exit code", outcome.code(), 0);
            if (outcome.code() != 0) System.out.println(outcome.printed());
            String[] answers = outcome.printed().split("\n");
            for (int i = 0; i < made.size() && i < answers.length; i++) {
                Due.holds(made.get(i) + " answers " + answers[i] + ", due is " + wants.get(i), answers[i].equals(wants.get(i)));
            }
        }
    }

    private static Set<String> face() {
        Set<String> names = new TreeSet<>();
        for (Method m : GoldHeaps.class.getDeclaredMethods()) {
            if (Modifier.isPublic(m.getModifiers())) names.add(m.getName());
        }
        return names;
    }

    /** The tables of classes and of tests name those that there are; .ci/run knows a test by its name's end. */
    private static void names(String page) throws IOException {
        Set<String> classes = new TreeSet<>(), tests = new TreeSet<>();
        for (Class<?> c : GoldHeaps.class.getDeclaredClasses()) classes.add(c.getSimpleName());
        for (Path file : Folder.filesUnder(TESTS)) {
            String name = file.getFileName().toString().replace(".java", "");
            Due.holds(name + " is told of", page.contains("`" + name + "`"));
            if (!Files.readString(file).contains("void main(String[] args) ")) continue;
            tests.add(name);
            Due.holds(name + " is found by .ci/run", name.endsWith("Test"));
        }
        Due.holds("the classes inside are those told", firstColumn(page, "## How it is built").equals(classes));
        Due.holds("the tests are those told", firstColumn(page, "## Tests").equals(tests));
    }

    private static Set<String> firstColumn(String page, String heading) {
        Set<String> names = new TreeSet<>();
        String part = page.substring(Math.max(0, page.indexOf("\n" + heading + "\n")) + 1).split("\n## ")[0];
        for (String line : part.split("\n")) {
            if (!line.startsWith("| `")) continue;
            Matcher name = Pattern.compile("`(\\w+)`").matcher(line.split("\\|")[1]);
            while (name.find()) names.add(name.group(1));
        }
        return names;
    }
}
