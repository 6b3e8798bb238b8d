import java.io.IOException;
import java.nio.file.Files;
import java.nio.file.Path;
import java.nio.file.StandardCopyOption;
import java.util.List;

/**
 * The command that README.md names for the tests, run in small checkouts that have a class, two tests of the project and
 * two under ../shared/tests: it runs all of them, whichever fails, and fails if one fails.
 */
public final class CommandTest {
    private static final String CLASS = "main/src/main/java/RaceWatch.java";
    private static final String ONE = "main/src/test/java/OneTest.java", TWO = "main/src/test/java/TwoTest.java";
    private static final String FIVE = "shared/tests/Five.java", SIX = "shared/tests/Six.java";
    private static final Due due = new Due("CommandTest");

    /** A checkout in which the command has been begun. */
    private record Case(String what, Folder checkout, Process command) {
    }

    public static void main(String[] args) throws Exception {
        List<String> commands = new Readme().blocks("sh");
        due.is("README.md names one command for the tests", commands.size(), 1);
        String command = commands.get(0).strip();
        // all are begun ahead of the first that is waited for, since each takes seconds
        Case whole = begin("whole", command, checkout());
        Case[] failing = {
            begin("a test of the project fails", command, with(ONE, test("OneTest", 4))),
            begin("a shared test fails", command, with(FIVE, test("Five", 4))),
            begin("the class is no Java", command, with(CLASS, "no Java")),
        };
        Case noneShared = begin("no shared tests", command, without(FIVE, SIX));
        Case noneOwn = begin("no tests of the project", command, without(ONE, TWO));
        ends(whole, true, ONE, TWO, FIVE, SIX);
        for (Case one : failing) {
            ends(one, false, ONE, TWO, FIVE, SIX);
        }
        ends(noneShared, false, ONE, TWO);
        ends(noneOwn, false, FIVE, SIX);
        due.end();
    }

    private static String classThatAnswersThree() {
        return "public final class RaceWatch { public int told(int what) { return 3; } }";
    }

    private static String test(String name, int want) {
        return "public class " + name + " { public static void main(String[] args) {"
            + " if (new RaceWatch().told(0) != " + want + ") { System.exit(1); } } }";
    }

    private static Folder checkout() throws IOException {
        Folder checkout = new Folder();
        checkout.write(CLASS, classThatAnswersThree());
        checkout.write(ONE, test("OneTest", 3));
        checkout.write(TWO, test("TwoTest", 3));
        checkout.write(FIVE, test("Five", 3));
        checkout.write(SIX, test("Six", 3));
        Path script = checkout.write("main/.ci/run", "");
        Files.copy(Path.of(".ci/run"), script, StandardCopyOption.REPLACE_EXISTING, StandardCopyOption.COPY_ATTRIBUTES);
        return checkout;
    }

    private static Folder with(String file, String text) throws IOException {
        Folder checkout = checkout();
        checkout.write(file, text);
        return checkout;
    }

    private static Folder without(String... files) throws IOException {
        Folder checkout = checkout();
        for (String file : files) {
            Files.delete(checkout.path(file));
        }
        return checkout;
    }

    private static Case begin(String what, String command, Folder checkout) throws IOException {
        Process process = new ProcessBuilder("sh", "-c", command).directory(checkout.path("main").toFile())
            .redirectErrorStream(true).redirectOutput(checkout.path("said").toFile()).start();
        return new Case(what, checkout, process);
    }

    private static void ends(Case one, boolean passes, String... tests) throws Exception {
        int code = one.command.waitFor();
        List<String> said = Files.readAllLines(one.checkout.path("said"));
        one.checkout.close();
        due.is(one.what + ": how many tests were run", (int) said.stream().filter(line -> line.startsWith("== ")).count(), tests.length);
        for (String test : tests) {
            due.yes(one.what + ": " + test + " was run", said.stream().anyMatch(line -> line.startsWith("== ") && line.endsWith(nameOf(test))));
        }
        due.yes(one.what + ": it " + (passes ? "passes" : "fails") + ", exit code " + code, (code == 0) == passes);
    }

    private static String nameOf(String file) {
        return "/" + Path.of(file).getFileName();
    }
}
