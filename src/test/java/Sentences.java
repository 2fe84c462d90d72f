import java.io.IOException;
import java.nio.file.Files;
import java.nio.file.Path;
import java.util.LinkedHashMap;
import java.util.Map;

/**
 * Tests that name the sentence of the document that they hold the class to: the heading under
 * which it stands, and its words. At the end each sentence of the document must have been named.
 */
final class Sentences {
    private static final Path DOCUMENT = Path.of("../shared/DOC.md");
    private static final char NAMED = '\u0001';

    private static final Map<String, StringBuilder> named = new LinkedHashMap<>();
    private static int tests = 0;

    private Sentences() {
    }

    /** Runs the test of one sentence. */
    static void test(String where, String words, Check.Act test) {
        tests++;
        named.computeIfAbsent(where, each -> new StringBuilder()).append(words).append('\n');
        Check.under(where + " [" + words + "]");
        int before = Check.made();
        try {
            test.go();
        } catch (RuntimeException e) {
            Check.tell("threw " + e);
        }
        if (Check.made() == before) {
            Check.tell("nothing was tested");
        }
        Check.under("");
    }

    /** All that is named stands in the document, and nothing stands there that is not named. */
    static void checkDocument() {
        System.out.println(tests + " sentences tested");
        if (!Files.exists(DOCUMENT)) {
            System.out.println(DOCUMENT + " is not there: it was not looked whether all is named");
            return;
        }
        Map<String, String> document = sections();
        for (String where : document.keySet()) {
            checkSection(where, document.get(where), named.remove(where));
        }
        for (String where : named.keySet()) {
            Check.tell("no heading of the document: " + where);
        }
    }

    private static void checkSection(String where, String text, StringBuilder sentences) {
        String rest = text;
        for (String words : sentences == null ? new String[0] : sentences.toString().split("\n")) {
            Check.holds("[" + words + "] stands under " + where, text.contains(words));
            rest = rest.replace(words, ("" + NAMED).repeat(words.length()));
        }
        String left = rest.replace(NAMED, ' ').replaceAll("\\s+", " ").trim();
        Check.same("what no test names under " + where, "", left.matches("[\\p{Punct}\\s]*") ? "" : left);
    }

    /** What stands under each heading up to 'Not promised', without code, in lines of one space. */
    private static Map<String, String> sections() {
        Map<String, String> found = new LinkedHashMap<>();
        for (String part : read().split("(?m)^## ")) {
            String[] lines = part.split("\n", 2);
            boolean tells = lines[0].startsWith("Promise ") || lines[0].equals("Terms")
                    || lines[0].equals("What it is");
            if (tells) {
                String text = lines[1].replaceAll("(?m)^```.*$", "").replaceFirst("^\\s*`[^`]*`: ", "");
                found.put(lines[0], text.replaceAll("\\s+", " ").trim());
            }
        }
        return found;
    }

    private static String read() {
        try {
            return Files.readString(DOCUMENT);
        } catch (IOException e) {
            throw new AssertionError(e);
        }
    }
}
