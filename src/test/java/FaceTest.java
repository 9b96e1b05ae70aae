import java.io.IOException;
import java.lang.reflect.Constructor;
import java.lang.reflect.Executable;
import java.lang.reflect.Field;
import java.lang.reflect.Method;
import java.lang.reflect.Modifier;
import java.nio.file.Files;
import java.nio.file.Path;
import java.util.Arrays;
import java.util.TreeSet;
import java.util.regex.Pattern;

/** The public face of the document, and the rules of LANGUAGE.md that can be seen by looking. */
public final class FaceTest {
    private static final String[] FACE = {
        "int person(int)", "int like(int,int,int)", "boolean quarrel(int,int,boolean)", "int heir(int,int)",
        "int thing(int,int,int)", "int work(int,int,int,int)", "int feed(int,int,int,int,int)", "int end(int)",
        "int law()", "int of(int,int)", "int two(int,int,int)", "int things(int,int)", "int works(int,int)",
        "int nod(int,int,int,int)", "int had(int,int,int)", "int can(int,int)", "int bars(int,int)",
        "int does(int,int)", "int row(int)", "int judged(int,int)", "int then(int,int)", "int chain(int,int)",
        "int all(int,int)", "int worth(int)", "int share(int,int,int)", "int stopped()", "int least()",
        "int lay(int,int,int)", "boolean swap(int,int,int,int)", "int trades()", "int dies(int)", "int seed(int)",
        "int years(int,int)", "int runs(int,int,int,int)", "int towards(int)", "int count(int)", "int image(int)",
        "int back(int)"};
    private static final String[] FORBIDDEN = {
        "throw", "throws", "try", "catch", "synchronized", "assert", "->", "::", "Exact\\(", "static \\{", "Object", "Random", "System\\.(?!arraycopy)", "Thread", "volatile", "native", "instanceof", "var "};

    private FaceTest() { }

    public static void main(String[] args) throws IOException {
        face();
        insides();
        source();
        Check.finish("FaceTest");
    }

    private static void face() {
        Class<?> c = OwnedByTwos.class;
        Check.due("public final", Modifier.isPublic(c.getModifiers()) && Modifier.isFinal(c.getModifiers()), true);
        TreeSet<String> shown = new TreeSet<>();
        TreeSet<String> names = new TreeSet<>();
        for (Method m : c.getDeclaredMethods()) {
            if (Modifier.isPublic(m.getModifiers())) {
                String told = m.toString().replace("public ", "").replace("OwnedByTwos.", "");
                shown.add(told);
                names.add(m.getName());
            } else {
                Check.due("private: " + m, Modifier.isPrivate(m.getModifiers()) || m.isSynthetic(), true);
            }
        }
        Check.due("methods are " + shown, shown.equals(new TreeSet<>(Arrays.asList(FACE))), true);
        Check.due("one constructor", c.getDeclaredConstructors().length, 1);
        for (Constructor<?> k : c.getDeclaredConstructors()) {
            Check.due("constructor", Modifier.isPublic(k.getModifiers()) && k.getParameterCount() == 0, true);
        }
        for (Field f : c.getDeclaredFields()) {
            boolean none = f.getName().equals("NONE") && Modifier.isPublic(f.getModifiers());
            Check.due("private: " + f, none || Modifier.isPrivate(f.getModifiers()), true);
        }
        for (Class<?> inside : c.getDeclaredClasses()) {
            for (Method m : inside.getDeclaredMethods()) {
                Check.due("a public one's name: " + m, names.contains(m.getName()), false);
            }
        }
        Check.due("NONE", OwnedByTwos.NONE, -1);
    }

    private static void insides() {
        Class<?>[] inside = OwnedByTwos.class.getDeclaredClasses();
        Check.due("classes", inside.length < 12, true);
        for (Class<?> c : inside) {
            Check.due("static: " + c, Modifier.isStatic(c.getModifiers()), true);
            look(c);
        }
        look(OwnedByTwos.class);
    }

    private static void look(Class<?> c) {
        int fields = 0;
        for (Field f : c.getDeclaredFields()) {
            boolean still = Modifier.isStatic(f.getModifiers());
            fields += still ? 0 : 1;
            Check.due("final: " + f, !still || Modifier.isFinal(f.getModifiers()), true);
        }
        Check.due("fields of " + c, fields <= 20, true);
        for (Executable e : c.getDeclaredMethods()) {
            Check.due("parameters of " + e, e.getParameterCount() <= 7, true);
        }
    }

    private static void source() throws IOException {
        String text = Files.readString(Path.of("src/main/java/OwnedByTwos.java"));
        String code = text.replaceAll("(?s)/\\*.*?\\*/", "").replaceAll("//[^\n]*", "");
        for (String word : FORBIDDEN) {
            String pattern = Character.isLetter(word.charAt(0)) ? "\\b" + word : word;
            pattern += Character.isLetter(word.charAt(word.length() - 1)) ? "\\b" : "";
            Check.due("has " + word, Pattern.compile(pattern).matcher(code).find(), false);
        }
        Check.due("signs above 127", text.chars().anyMatch(c -> c > 127), false);
        int lines = 0;
        for (String line : code.split("\n")) {
            boolean opens = line.matches(" {4,8}[a-zA-Z].*\\) \\{");
            boolean shuts = line.matches(" {4,8}\\}");
            lines = opens ? 0 : lines + 1;
            Check.due("lines up to " + line, !shuts || lines <= 60 || line.startsWith("    }"), true);
        }
    }
}
