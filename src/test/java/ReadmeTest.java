import java.io.IOException;
import java.lang.reflect.Method;
import java.lang.reflect.Modifier;
import java.net.URL;
import java.net.URLClassLoader;
import java.nio.file.Path;
import java.util.ArrayList;
import java.util.List;
import java.util.regex.Matcher;
import java.util.regex.Pattern;
import javax.tools.ToolProvider;

/** The example in README.md compiles, answers as its comments say, and calls all that the class has. */
public final class ReadmeTest {
    // A name that is given, a call, and what the comment begins with.
    private static final Pattern LINE = Pattern.compile("(?:int (\\w+) = )?([^;/]+);(?: +// ([^:]+(?:: [0-7 ]+$)?).*)?");
    private static final String ANSWER = "-?\\d+|true|false";
    private static final String THROWS = "throws \\w+";
    private static final String WORD = "the word:( [0-7])*";

    // What stands beside the example, so that it tells what it answers.
    private static final String BESIDE = """
            static String thrown(Runnable call) {
                try {
                    call.run();
                } catch (RuntimeException e) {
                    return "throws " + e.getClass().getSimpleName();
                }
                return "throws nothing";
            }
            static String word(GuardedGrammar x) {
                String word = "the word:";
                for (int i = 0; i < x.length(); i++) {
                    word += " " + x.letter(i);
                }
                return word;
            }
            """;

    private final List<String> calls = new ArrayList<>();
    private final List<String> due = new ArrayList<>();
    private final StringBuilder telling = new StringBuilder();

    private ReadmeTest() {
    }

    public static void main(String[] args) throws ReflectiveOperationException, IOException {
        String example = Readme.block("How to use it", "java");
        compile("Example", "static void all() {\n" + example + "}\n");
        new ReadmeTest().compareAnswers(example);
        callsAll(example);
        Check.end();
    }

    private void compareAnswers(String example) throws ReflectiveOperationException, IOException {
        for (String line : example.split("\n")) {
            if (!line.isBlank() && !line.startsWith("//")) {
                tell(line);
            }
        }
        Path folder = compile("Telling", BESIDE + "public static String all() {\nStringBuilder told = new StringBuilder();\n"
                + telling + "return told.toString();\n}\n");
        URL[] places = {folder.toUri().toURL()};
        try (URLClassLoader loader = new URLClassLoader(places, ReadmeTest.class.getClassLoader())) {
            String[] told = ((String) loader.loadClass("Telling").getMethod("all").invoke(null)).split("\n");
            Check.answers("answers of the example", due.size(), () -> told.length);
            for (int i = 0; i < due.size(); i++) {
                Check.same(calls.get(i), due.get(i), told[i]);
            }
        }
        Check.holds("the example tells answers", due.size() > 20);
    }

    /** A line of the example, and the same line so that it tells its answer, if a comment does. */
    private void tell(String line) {
        Matcher parts = LINE.matcher(line);
        if (!parts.matches()) {
            Check.tell("not one call in a line: " + line);
            return;
        }
        String name = parts.group(1);
        String call = parts.group(2);
        String answer = parts.group(3);
        if (answer == null) {
            telling.append(line).append('\n');
            return;
        }
        calls.add(call);
        due.add(answer);
        if (name != null) {
            telling.append("int ").append(name).append(" = ").append(call).append(";\n");
            tellValue(name);
        } else if (answer.matches(ANSWER)) {
            tellValue(call);
        } else if (answer.matches(THROWS)) {
            tellValue("thrown(() -> " + call + ")");
        } else if (answer.matches(WORD)) {
            telling.append(call).append(";\n");
            tellValue("word(x)");
        } else {
            Check.tell("no answer that could be looked at: " + line);
        }
    }

    private void tellValue(String value) {
        telling.append("told.append(").append(value).append(").append('\\n');\n");
    }

    /** Compiles a class that has some methods; the folder where it is then. */
    private static Path compile(String name, String methods) {
        Path folder = Folders.fresh();
        Path file = folder.resolve(name + ".java");
        Folders.write(file, "public final class " + name + " {\n" + methods + "}\n");
        Check.answers(name + " compiles", 0, () -> ToolProvider.getSystemJavaCompiler().run(null, null, null,
                "-cp", System.getProperty("java.class.path"), file.toString()));
        return folder;
    }

    private static void callsAll(String example) {
        for (Method method : GuardedGrammar.class.getDeclaredMethods()) {
            if (Modifier.isPublic(method.getModifiers())) {
                Check.holds("the example calls " + method.getName(), example.contains("x." + method.getName() + "("));
            }
        }
    }
}
