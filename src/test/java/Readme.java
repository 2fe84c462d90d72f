import java.nio.file.Path;
import java.util.regex.Matcher;
import java.util.regex.Pattern;

/** The parts of README.md. */
final class Readme {
    private Readme() {
    }

    static String page() {
        return Folders.read(Path.of("README.md"));
    }

    /** What stands between ```language and ``` under a heading: there must be one such part. */
    static String block(String heading, String language) {
        String section = only("(?ms)^## " + heading + "$(.*?)(?=^## |\\z)", page());
        return only("(?ms)^```" + language + "\n(.*?)^```$", section);
    }

    private static String only(String pattern, String text) {
        Matcher matcher = Pattern.compile(pattern).matcher(text);
        String found = matcher.find() ? matcher.group(1) : null;
        if (found == null || matcher.find()) {
            throw new AssertionError("README.md must have one of these: " + pattern);
        }
        return found;
    }
}
