import java.io.IOException;
import java.nio.file.Files;
import java.nio.file.Path;
import java.util.List;
import java.util.regex.Pattern;

/** README.md: the names and the blocks of code in it. */
final class Readme {
    private final String page;

    Readme() throws IOException {
        page = Files.readString(Path.of("README.md"));
    }

    boolean names(String name) {
        return page.contains("`" + name + "`");
    }

    List<String> namesThatEndWith(String end) {
        return allOf("`(\\w+" + end + ")`");
    }

    /** The blocks of a language, in their order. */
    List<String> blocks(String language) {
        return allOf("(?ms)^```" + language + "\\n(.*?)^```$");
    }

    private List<String> allOf(String pattern) {
        return Pattern.compile(pattern).matcher(page).results().map(found -> found.group(1)).toList();
    }
}
