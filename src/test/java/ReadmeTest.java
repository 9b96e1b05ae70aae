import java.io.IOException;
import java.lang.reflect.Method;
import java.lang.reflect.Modifier;
import java.net.URL;
import java.net.URLClassLoader;
import java.nio.file.Files;
import java.nio.file.Path;
import java.util.ArrayList;
import java.util.List;
import java.util.regex.Matcher;
import java.util.regex.Pattern;
import javax.tools.JavaCompiler;
import javax.tools.ToolProvider;

/** README.md's Java is compiled and run as it stands there, each answer held against the one behind its call. */
public final class ReadmeTest {
    private static final Pattern BLOCK = Pattern.compile("```java\n(.*?)```", Pattern.DOTALL);
    private static final Pattern CALL =
            Pattern.compile("(?:int (\\w+) = )?((?:town\\.)?\\w+\\(.*\\)); +// (-?\\d+|true|false)(?::.*)?");
    private static final Pattern SILENT =
            Pattern.compile("OwnedByTwos town = new OwnedByTwos\\(\\);|int \\w+ = [^(]*;|");

    /** A call that README.md shows, and what stands behind it. */
    private record Told(String call, String answer) { }

    private static final List<Told> TOLD = new ArrayList<>();

    private ReadmeTest() { }

    public static void main(String[] args) throws IOException, ReflectiveOperationException {
        String text = Files.readString(Path.of("README.md"));
        String program = program(text);
        String[] answers = new String[TOLD.size()];
        run(program, answers);
        for (int i = 0; i < answers.length; i++) {
            Told told = TOLD.get(i);
            Check.due("README.md: " + told.call + " told as " + told.answer + ", answered " + answers[i],
                    told.answer.equals(answers[i]), true);
        }
        leavesOutNone(text);
        Check.finish("ReadmeTest");
    }

    /** Blocks that begin with 'static' are helpers; each other one is a run of its own. */
    private static String program(String text) {
        StringBuilder helpers = new StringBuilder();
        StringBuilder runs = new StringBuilder();
        Matcher block = BLOCK.matcher(text);
        while (block.find()) {
            if (block.group(1).startsWith("static")) {
                helpers.append(block.group(1));
            } else {
                runs.append("{\n");
                for (String line : block.group(1).split("\n")) {
                    runs.append(keepingItsAnswer(line)).append('\n');
                }
                runs.append("}\n");
            }
        }
        return "public final class Readme {\n" + helpers + "public static void run(String[] answers) {\n" + runs
                + "}\n}\n";
    }

    /** A line without an answer must be one that has none to show. */
    private static String keepingItsAnswer(String line) {
        Matcher call = CALL.matcher(line);
        if (!call.matches()) {
            Check.due("README.md: no answer behind: " + line, SILENT.matcher(line).matches(), true);
            return line;
        }
        String keep = "answers[" + TOLD.size() + "] = String.valueOf(%s);";
        TOLD.add(new Told(call.group(2), call.group(3)));
        if (call.group(1) == null) {
            return keep.replace("%s", call.group(2));
        }
        return "int " + call.group(1) + " = " + call.group(2) + "; " + keep.replace("%s", call.group(1));
    }

    private static void run(String program, String[] answers) throws IOException, ReflectiveOperationException {
        Path place = Files.createTempDirectory("readme");
        Path source = place.resolve("Readme.java");
        try {
            Files.writeString(source, program);
            JavaCompiler compiler = ToolProvider.getSystemJavaCompiler();
            int failed = compiler.run(null, null, null, "-cp", System.getProperty("java.class.path"), "-d",
                    place.toString(), source.toString());
            Check.due("README.md compiles", failed, 0);
            if (failed == 0) {
                call(place, answers);
            }
        } finally {
            Files.deleteIfExists(place.resolve("Readme.class"));
            Files.deleteIfExists(source);
            Files.delete(place);
        }
    }

    private static void call(Path place, String[] answers) throws IOException, ReflectiveOperationException {
        try (URLClassLoader loader = new URLClassLoader(new URL[] {place.toUri().toURL()})) {
            loader.loadClass("Readme").getMethod("run", String[].class).invoke(null, (Object) answers);
        }
    }

    /** Each method of the face is shown with an answer, and stands in the table of all calls. */
    private static void leavesOutNone(String text) {
        for (Method m : OwnedByTwos.class.getDeclaredMethods()) {
            if (Modifier.isPublic(m.getModifiers())) {
                String begin = "town." + m.getName() + "(";
                Check.due("README.md shows " + m.getName(), TOLD.stream().anyMatch(t -> t.call.startsWith(begin)),
                        true);
                Matcher row = Pattern.compile("\\| \\d+ \\| `" + m.getName() + "\\(([^)]*)\\)` \\|").matcher(text);
                boolean found = row.find();
                int told = !found || row.group(1).isEmpty() ? 0 : row.group(1).split(",").length;
                Check.due("README.md's table has " + m.getName(), found && told == m.getParameterCount(), true);
            }
        }
    }
}
