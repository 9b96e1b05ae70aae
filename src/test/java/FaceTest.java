import java.io.IOException;
import java.lang.reflect.Constructor;
import java.lang.reflect.Executable;
import java.lang.reflect.Field;
import java.lang.reflect.Method;
import java.lang.reflect.Modifier;
import java.nio.file.Files;
import java.nio.file.Path;
import java.util.ArrayList;
import java.util.Arrays;
import java.util.List;
import java.util.Map;
import java.util.TreeMap;
import java.util.TreeSet;
import java.util.regex.Matcher;
import java.util.regex.Pattern;

/** The public face of the document, and the rules of LANGUAGE.md that can be seen by looking. */
public final class FaceTest {
    private static final String[] FACE = {
        "int person(int)", "int like(int,int,int)", "boolean quarrel(int,int,boolean)", "int heir(int,int)",
        "int thing(int,int,int)", "int work(int,int,int,int)", "int feed(int,int,int,int,int)", "int end(int)",
        "int law()", "int of(int,int)", "int two(int,int,int)", "int things(int,int)", "int works(int,int)",
        "int nod(int,int,int,int)", "int had(int,int,int)", "int can(int,int)", "int bars(int,int)",
        "int does(int,int)", "int row(int)", "int judged(int,int)", "int then(int,int)", "int chain(int,int)",
        "int all(int,int)", "int worth(int)", "int share(int,int,int)", "int stopped()", "int least()",
        "int lay(int,int,int)", "boolean swap(int,int,int,int)", "int trades()", "int dies(int)", "int seed(int)",
        "int years(int,int)", "int runs(int,int,int,int)", "int towards(int)", "int count(int)", "int image(int)",
        "int back(int)"};
    private static final String[] FORBIDDEN = {
        "throw", "throws", "try", "catch", "synchronized", "assert", "->", "::", "Exact\\(", "static \\{", "Object",
        "Random", "Thread", "volatile", "native", "instanceof", "var "};
    private static final List<String> LIBRARY = List.of("Arrays.fill", "Integer.bitCount",
            "Integer.numberOfTrailingZeros", "Math.max", "Math.min", "System.arraycopy", "java.util", "util.Arrays");
    private static final int MOST_DEEP = 8;

    private FaceTest() { }

    public static void main(String[] args) throws IOException {
        face();
        insides();
        String text = Files.readString(Path.of("src/main/java/OwnedByTwos.java"));
        String code = text.replaceAll("(?s)/\\*.*?\\*/", "").replaceAll("//[^\n]*", "");
        Check.due("signs above 127", text.chars().anyMatch(c -> c > 127), false);
        words(code);
        lengths(code);
        depths(code);
        Check.finish("FaceTest");
    }

    private static void face() {
        Class<?> c = OwnedByTwos.class;
        Check.due("public final", Modifier.isPublic(c.getModifiers()) && Modifier.isFinal(c.getModifiers()), true);
        TreeSet<String> shown = new TreeSet<>();
        TreeSet<String> names = new TreeSet<>();
        for (Method m : c.getDeclaredMethods()) {
            if (Modifier.isPublic(m.getModifiers())) {
                String told = m.toString().replace("public ", "").replace("OwnedByTwos.", "");
                shown.add(told);
                names.add(m.getName());
            } else {
                Check.due("private: " + m, Modifier.isPrivate(m.getModifiers()) || m.isSynthetic(), true);
            }
        }
        Check.due("methods are " + shown, shown.equals(new TreeSet<>(Arrays.asList(FACE))), true);
        Check.due("one constructor", c.getDeclaredConstructors().length, 1);
        for (Constructor<?> k : c.getDeclaredConstructors()) {
            Check.due("constructor", Modifier.isPublic(k.getModifiers()) && k.getParameterCount() == 0, true);
        }
        for (Field f : c.getDeclaredFields()) {
            boolean none = f.getName().equals("NONE") && Modifier.isPublic(f.getModifiers());
            Check.due("private: " + f, none || Modifier.isPrivate(f.getModifiers()), true);
        }
        for (Class<?> inside : c.getDeclaredClasses()) {
            for (Method m : inside.getDeclaredMethods()) {
                Check.due("a public one's name: " + m, names.contains(m.getName()), false);
            }
        }
        Check.due("NONE", OwnedByTwos.NONE, -1);
    }

    private static void insides() {
        Class<?>[] inside = OwnedByTwos.class.getDeclaredClasses();
        Check.due("classes", inside.length < 12, true);
        for (Class<?> c : inside) {
            Check.due("static: " + c, Modifier.isStatic(c.getModifiers()), true);
            look(c);
        }
        look(OwnedByTwos.class);
    }

    private static void look(Class<?> c) {
        int fields = 0;
        for (Field f : c.getDeclaredFields()) {
            boolean still = Modifier.isStatic(f.getModifiers());
            fields += still ? 0 : 1;
            Check.due("final: " + f, !still || Modifier.isFinal(f.getModifiers()), true);
        }
        Check.due("fields of " + c, fields <= 20, true);
        for (Executable e : c.getDeclaredMethods()) {
            Check.due("parameters of " + e, e.getParameterCount() <= 7, true);
        }
    }

    private static void words(String code) {
        for (String word : FORBIDDEN) {
            String pattern = Character.isLetter(word.charAt(0)) ? "\\b" + word : word;
            pattern += Character.isLetter(word.charAt(word.length() - 1)) ? "\\b" : "";
            Check.due("has " + word, Pattern.compile(pattern).matcher(code).find(), false);
        }
        Matcher library = Pattern.compile("\\b(java|util|[A-Z]\\w*[a-z])\\.(\\w+)").matcher(code);
        while (library.find()) {
            Check.due("of the library: " + library.group(), LIBRARY.contains(library.group()), true);
        }
    }

    private static void lengths(String code) {
        int lines = 0;
        for (String line : code.split("\n")) {
            boolean opens = line.matches(" {4,8}[a-zA-Z].*\\) \\{");
            boolean shuts = line.matches(" {4,8}\\}");
            lines = opens ? 0 : lines + 1;
            Check.due("lines up to " + line, !shuts || lines <= 60 || line.startsWith("    }"), true);
        }
    }

    /** Each method's name is its own, so that calls can be told by names; a recursion is gone into once. */
    private static void depths(String code) {
        Map<String, String> bodies = new TreeMap<>();
        Matcher method = Pattern.compile("(?ms)^( {4,8})(?:\\w+ )*[\\w\\[\\]]+ (\\w+)\\([^)]*\\) \\{\n(.*?)^\\1\\}")
                .matcher(code);
        while (method.find()) {
            boolean own = bodies.put(method.group(2), method.group(3)) == null;
            Check.due("a name of its own: " + method.group(2), own, true);
        }
        Check.due("methods are found", bodies.size() > FACE.length, true);
        for (String name : bodies.keySet()) {
            Check.due("calls below " + name, depth(name, bodies, List.of()) <= MOST_DEEP, true);
        }
    }

    private static int depth(String name, Map<String, String> bodies, List<String> open) {
        int most = 0;
        List<String> now = new ArrayList<>(open);
        now.add(name);
        Matcher call = Pattern.compile("(\\w+)\\(").matcher(bodies.get(name));
        while (call.find()) {
            if (bodies.containsKey(call.group(1)) && !now.contains(call.group(1))) {
                most = Math.max(most, depth(call.group(1), bodies, now));
            }
        }
        return most + 1;
    }
}
