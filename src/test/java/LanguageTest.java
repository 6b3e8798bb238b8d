import java.io.IOException;
import java.lang.reflect.Constructor;
import java.lang.reflect.Field;
import java.lang.reflect.Method;
import java.lang.reflect.Modifier;
import java.nio.file.Files;
import java.nio.file.Path;
import java.util.Arrays;
import java.util.Set;
import java.util.TreeSet;
import java.util.regex.Matcher;
import java.util.regex.Pattern;

/** The public face, and the rules of LANGUAGE.md that can be seen in the file. */
public final class LanguageTest {
    private static final Path FILE = Path.of("src/main/java/RaceWatch.java");
    private static final String FORBIDDEN = "throw|throws|try|catch|finally|synchronized|assert|native|volatile|transient|package|Object|Exception|Error"
        + "|Thread|System\\s*\\.\\s*(?!arraycopy)\\w+|Random|nanoTime|currentTimeMillis|hashCode|toString|equals|->|::|@\\w+";
    private static final String FACE = "int ahead(int,int); int anew(); int cell(int,int); int clock(int,int,int); int drift(int,int); int event(int,int,int);"
        + " int eventOf(int,int); int fault(); int feed(int); int goBack(int); int guard(int); int holder(int); int journal(int,int); int jump(int,int);"
        + " int keep(int); int race(int,int,int); int races(int,int); int run(); int shared(int,int); int told(int); int would(int,int,boolean)";
    private static final Due due = new Due("LanguageTest");

    public static void main(String[] args) throws IOException {
        face();
        membersAreFew();
        String code = withoutCommentsAndTexts(Files.readString(FILE));
        noForbiddenWord(code);
        onlyOneImport(code);
        methodsAreShort(code);
        plainSigns(Files.readString(FILE));
        due.end();
    }

    private static void yes(String what, boolean holds) {
        due.is(what, holds ? 1 : 0, 1);
    }

    private static void face() {
        Class<?> c = RaceWatch.class;
        yes("public and final", Modifier.isPublic(c.getModifiers()) && Modifier.isFinal(c.getModifiers()));
        Constructor<?>[] constructors = c.getDeclaredConstructors();
        yes("one public constructor", constructors.length == 1 && Modifier.isPublic(constructors[0].getModifiers())
            && constructors[0].getParameterCount() == 0);
        Set<String> open = new TreeSet<>();
        Set<String> openNames = new TreeSet<>();
        Set<String> hiddenNames = new TreeSet<>();
        for (Method m : c.getDeclaredMethods()) {
            if (Modifier.isPrivate(m.getModifiers())) {
                hiddenNames.add(m.getName());
            } else {
                yes(m.getName() + " is public and not static", Modifier.isPublic(m.getModifiers()) && !Modifier.isStatic(m.getModifiers()));
                String types = String.join(",", Arrays.stream(m.getParameterTypes()).map(Class::getName).toArray(String[]::new));
                open.add(m.getReturnType() + " " + m.getName() + "(" + types + ")");
                openNames.add(m.getName());
            }
        }
        yes("the document's methods and no other: " + open, String.join("; ", open).equals(FACE));
        for (Class<?> inside : c.getDeclaredClasses()) {
            for (Method m : inside.getDeclaredMethods()) {
                hiddenNames.add(m.getName());
            }
        }
        hiddenNames.retainAll(openNames);
        yes("no other method bears a public name: " + hiddenNames, hiddenNames.isEmpty());
        Set<String> constants = new TreeSet<>();
        for (Field f : c.getDeclaredFields()) {
            if (!Modifier.isPrivate(f.getModifiers())) {
                yes(f.getName() + " is a constant", Modifier.isStatic(f.getModifiers()) && Modifier.isFinal(f.getModifiers()));
                constants.add(f.getName());
            }
        }
        yes("the constants", constants.toString().equals("[FULL, MUCH, NONE, NOT, OUTSIDE, UNKNOWN]"));
        due.is("NONE", RaceWatch.NONE, -1);
        due.is("UNKNOWN", RaceWatch.UNKNOWN, -1000000001);
        due.is("OUTSIDE", RaceWatch.OUTSIDE, -1000000002);
        due.is("NOT", RaceWatch.NOT, -1000000003);
        due.is("FULL", RaceWatch.FULL, -1000000004);
        due.is("MUCH", RaceWatch.MUCH, -1000000005);
    }

    private static void membersAreFew() {
        yes("at most twelve classes", RaceWatch.class.getDeclaredClasses().length < 12);
        for (Class<?> c : RaceWatch.class.getDeclaredClasses()) {
            yes(c + " is static and not public", Modifier.isStatic(c.getModifiers()) && !Modifier.isPublic(c.getModifiers())
                && !Modifier.isProtected(c.getModifiers()));
            yes(c + " has no class inside", c.getDeclaredClasses().length == 0);
            long fields = Arrays.stream(c.getDeclaredFields()).filter(f -> !Modifier.isStatic(f.getModifiers())).count();
            yes(c + " has at most twenty fields", fields <= 20);
            for (Field f : c.getDeclaredFields()) {
                yes(f + " is final if static", !Modifier.isStatic(f.getModifiers()) || Modifier.isFinal(f.getModifiers()));
            }
            for (Method m : c.getDeclaredMethods()) {
                yes(m + " takes at most seven", m.getParameterCount() <= 7);
            }
        }
    }

    private static String withoutCommentsAndTexts(String source) {
        return source.replaceAll("(?s)/\\*.*?\\*/", " ").replaceAll("//[^\n]*", " ").replaceAll("\"[^\"\n]*\"", "\"\"");
    }

    private static void noForbiddenWord(String code) {
        Matcher m = Pattern.compile("(?<!\\w)(" + FORBIDDEN + ")(?!\\w)").matcher(code);
        while (m.find()) {
            yes("forbidden: " + m.group(), false);
        }
        yes("no text joined by +", !Pattern.compile("\"\"\\s*\\+|\\+\\s*\"\"").matcher(code).find());
    }

    private static void onlyOneImport(String code) {
        Matcher m = Pattern.compile("(?m)^\\s*import\\s+([^;]*);").matcher(code);
        while (m.find()) {
            yes("import " + m.group(1), Set.of("java.util.Arrays", "java.util.ArrayList", "java.util.List").contains(m.group(1)));
        }
    }

    /** A method stands at four or eight blanks, and ends with a lone brace at as many. */
    private static void methodsAreShort(String code) {
        Matcher m = Pattern.compile("(?ms)^( {4}| {8})(?! )[^\\n;=]*\\([^\\n;]*\\) \\{\\n(.*?)^\\1\\}").matcher(code);
        int methods = 0;
        while (m.find()) {
            methods++;
            yes("a method of at most sixty lines: " + m.group().lines().findFirst().orElse(""), m.group(2).lines().count() <= 60);
        }
        yes("methods were found", methods > 50);
    }

    private static void plainSigns(String source) {
        yes("signs 1 to 127 alone", source.chars().allMatch(c -> c > 0 && c < 128));
    }
}
