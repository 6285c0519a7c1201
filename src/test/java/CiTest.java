import java.io.IOException;
import java.util.List;
import java.util.stream.Stream;

/** The script .ci/run, in projects of few small tests: it runs every one of them, and fails if one fails. */
public final class CiTest {
    private static final String CLASS = "main/src/main/java/GoldHeaps.java";
    private static final List<String> TESTS = List.of(
        "main/src/test/java/OneTest.java", "main/src/test/java/TwoTest.java", "shared/tests/ThreeRuns.java", "shared/tests/FourRuns.java");
    private static final String NO_JAVA = "public final class";

    /** A project with one file put in place of its own; none where bad is empty, no shared tests where it is "shared". */
    private record Case(String bad, String text) {
        boolean runsAll() {
            return text.startsWith("public final class ") || bad.isEmpty();
        }
    }

    private record Tried(Case what, Folder.Outcome outcome) {
    }

    public static void main(String[] args) {
        List<Case> cases = List.of(new Case("", ""),
            new Case(TESTS.get(0), test(TESTS.get(0), "System.exit(1);")),
            new Case(TESTS.get(1), test(TESTS.get(1), "if (args.length == 0) throw new IllegalStateException();")),
            new Case(TESTS.get(2), test(TESTS.get(2), "System.exit(1);")),
            new Case(CLASS, NO_JAVA), new Case(TESTS.get(0), NO_JAVA), new Case(TESTS.get(3), NO_JAVA), new Case("shared", ""));
        // Most of the time of each is a start of Java, so they run beside one another.
        List<Tried> tried = cases.parallelStream().map(CiTest::tried).toList();
        for (Tried t : tried) judge(t.what(), t.outcome());
        Due.end();
    }

    /** A test that says that it runs, and then does what is told. */
    private static String test(String file, String does) {
        return "public final class " + name(file) + " {\n"
            + "  public static void main(String[] args) {\n"
            + "    System.out.println(\"here is " + name(file) + " with \" + new GoldHeaps().getClass().getName());\n"
            + "    " + does + "\n  }\n}\n";
    }

    private static String name(String file) {
        return file.replaceAll(".*/|\\.java", "");
    }

    private static Tried tried(Case what) {
        try (Folder folder = new Folder()) {
            folder.copy(".ci", "main");
            folder.write(CLASS, "public final class GoldHeaps { }\n");
            for (String file : TESTS) folder.write(file, test(file, ""));
            if (what.bad().equals("shared")) {
                folder.run("shared", "rm tests/*.java");
            } else if (!what.bad().isEmpty()) {
                folder.write(what.bad(), what.text());
            }
            return new Tried(what, folder.run("", "main/.ci/run"));
        } catch (IOException | InterruptedException e) {
            throw new IllegalStateException(e);
        }
    }

    private static void judge(Case what, Folder.Outcome outcome) {
        String label = what.bad().isEmpty() ? "all is well: " : what.bad() + (what.runsAll() ? " fails: " : " is broken: ");
        Due.holds(label + "exit code " + outcome.code(), (outcome.code() == 0) == what.bad().isEmpty());
        if (!what.runsAll()) return;
        for (String file : TESTS) {
            String said = file.equals(what.bad()) ? "FAIL" : "ok";
            Due.holds(label + file + " runs", outcome.printed().contains("here is " + name(file) + " with GoldHeaps\n"));
            Due.holds(label + file + " is said to be " + said, Stream.of(outcome.printed().split("\n"))
                .anyMatch(line -> line.matches(said + " +(shared )?" + name(file))));
        }
    }
}
