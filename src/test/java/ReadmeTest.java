import java.io.IOException;
import java.lang.reflect.Method;
import java.lang.reflect.Modifier;
import java.net.URL;
import java.net.URLClassLoader;
import java.nio.file.Files;
import java.nio.file.Path;
import java.util.ArrayList;
import java.util.List;
import java.util.Set;
import java.util.TreeSet;
import java.util.regex.Matcher;
import java.util.regex.Pattern;
import java.util.stream.Stream;

/** What README.md shows as use of the class: its calls, as they stand there, must answer what stands behind them. */
public final class ReadmeTest {
    /** A call, blanks, and behind the slashes its answer: a number or a constant's name, then words. */
    private static final Pattern SHOWN = Pattern.compile("(x\\.(\\w+)\\(.*\\)); +// (-?\\d+|[A-Z]+): .+");
    private static final Due due = new Due("ReadmeTest");

    private record Shown(String call, String name, String answer) {
    }

    public static void main(String[] args) throws Exception {
        Readme readme = new Readme();
        List<Shown> all = new ArrayList<>();
        for (String block : readme.blocks("java")) {
            List<Shown> shown = new ArrayList<>();
            String code = codeThatNotesAnswers(block, shown);
            answersAreAsShown(shown, answersOf(code));
            all.addAll(shown);
        }
        eachCallIsShown(all);
        eachRefusalIsShown(all);
        eachFileHasItsPlace(readme);
        due.end();
    }

    /** The block as it stands, but that the answers it shows are noted. */
    private static String codeThatNotesAnswers(String block, List<Shown> shown) {
        StringBuilder code = new StringBuilder("public final class Use { public static void use(java.util.List<Integer> answers) {\n");
        for (String line : block.lines().toList()) {
            Matcher found = SHOWN.matcher(line);
            if (found.matches()) {
                shown.add(new Shown(found.group(1), found.group(2), found.group(3)));
                code.append("answers.add(").append(found.group(1)).append(");\n");
            } else {
                due.yes("README.md shows an answer behind " + line, !line.startsWith("x."));
                code.append(line).append('\n');
            }
        }
        due.yes("a block of README.md shows answers", !shown.isEmpty());
        return code.append("}}\n").toString();
    }

    private static List<Integer> answersOf(String code) throws Exception {
        List<Integer> answers = new ArrayList<>();
        try (Folder folder = new Folder()) {
            Path file = folder.write("Use.java", code);
            Process javac = new ProcessBuilder("javac", "--release", "17", "-cp", System.getProperty("java.class.path"), file.toString())
                .inheritIO().start();
            boolean compiles = javac.waitFor() == 0;
            due.yes("a block of README.md compiles", compiles);
            if (compiles) {
                try (URLClassLoader loader = new URLClassLoader(new URL[] {file.getParent().toUri().toURL()})) {
                    loader.loadClass("Use").getMethod("use", List.class).invoke(null, answers);
                }
            }
        }
        return answers;
    }

    private static void answersAreAsShown(List<Shown> shown, List<Integer> answers) throws ReflectiveOperationException {
        due.is("how many answers", answers.size(), shown.size());
        for (int i = 0; i < Math.min(answers.size(), shown.size()); i++) {
            due.is("README.md: " + shown.get(i).call, answers.get(i), number(shown.get(i).answer));
        }
    }

    private static int number(String answer) throws ReflectiveOperationException {
        return Character.isLetter(answer.charAt(0)) ? RaceWatch.class.getField(answer).getInt(null) : Integer.parseInt(answer);
    }

    private static void eachCallIsShown(List<Shown> all) {
        for (Method method : RaceWatch.class.getDeclaredMethods()) {
            if (Modifier.isPublic(method.getModifiers())) {
                due.yes("README.md shows an answer of " + method.getName(), all.stream().anyMatch(s -> s.name.equals(method.getName())));
            }
        }
    }

    private static void eachRefusalIsShown(List<Shown> all) {
        for (String refusal : List.of("UNKNOWN", "OUTSIDE", "NOT", "FULL", "MUCH")) {
            due.yes("README.md shows " + refusal, all.stream().anyMatch(s -> s.answer.equals(refusal)));
        }
    }

    /** Tests and classes that README.md names are there, and it names all that are. */
    private static void eachFileHasItsPlace(Readme readme) throws IOException {
        Set<String> tests = new TreeSet<>();
        try (Stream<Path> files = Files.list(Path.of("src/test/java"))) {
            files.forEach(file -> tests.add(file.getFileName().toString().replace(".java", "")));
        }
        for (String name : tests) {
            due.yes("README.md names " + name, readme.names(name));
        }
        for (String name : readme.namesThatEndWith("Test")) {
            due.yes("there is " + name, tests.contains(name));
        }
        for (Class<?> inside : RaceWatch.class.getDeclaredClasses()) {
            due.yes("README.md names " + inside.getSimpleName(), readme.names(inside.getSimpleName()));
        }
    }
}
