import java.io.IOException;
import java.lang.reflect.Constructor;
import java.lang.reflect.Field;
import java.lang.reflect.Method;
import java.lang.reflect.Modifier;
import java.nio.file.Files;
import java.nio.file.Path;
import java.util.List;
import java.util.Set;
import java.util.TreeSet;

/** The public face, and those rules of LANGUAGE.md that can be seen from the class and its text. */
public final class FaceTest {
    private static final List<String> FACE = List.of(
        "int best(int) IllegalStateException IndexOutOfBoundsException",
        "int defect(int) IllegalStateException IllegalArgumentException",
        "void end(int) IllegalArgumentException",
        "int explore() IllegalStateException UnsupportedOperationException",
        "int fault()",
        "int goal(int) IllegalStateException IndexOutOfBoundsException UnsupportedOperationException",
        "int moves(int) IllegalStateException IndexOutOfBoundsException UnsupportedOperationException",
        "int next(int,int) IllegalStateException IndexOutOfBoundsException",
        "int play(int) IllegalStateException IndexOutOfBoundsException UnsupportedOperationException",
        "int put(int) IllegalArgumentException UnsupportedOperationException",
        "int read()",
        "int sheet(int) IllegalStateException IllegalArgumentException",
        "int sign(int,int,int) IllegalStateException IllegalArgumentException IndexOutOfBoundsException UnsupportedOperationException",
        "int start() IllegalStateException UnsupportedOperationException",
        "int state(int,int) IllegalStateException IndexOutOfBoundsException IllegalArgumentException",
        "boolean terminal() IllegalStateException UnsupportedOperationException",
        "int value(int) IllegalStateException IndexOutOfBoundsException");

    private FaceTest() {
    }

    private static String written(Method m) {
        StringBuilder out = new StringBuilder(m.getReturnType().getSimpleName()).append(' ').append(m.getName()).append('(');
        for (int k = 0; k < m.getParameterCount(); k++) {
            out.append(k == 0 ? "" : ",").append(m.getParameterTypes()[k].getSimpleName());
        }
        out.append(')');
        for (Class<?> e : m.getExceptionTypes()) {
            out.append(' ').append(e.getSimpleName());
        }
        return out.toString();
    }

    private static void face() {
        Class<?> c = RuleSheets.class;
        Check.holds("the class is public and final", Modifier.isPublic(c.getModifiers()) && Modifier.isFinal(c.getModifiers()));
        Set<String> found = new TreeSet<>();
        Set<String> names = new TreeSet<>();
        for (Method m : c.getDeclaredMethods()) {
            if (Modifier.isPublic(m.getModifiers())) {
                found.add(written(m));
                names.add(m.getName());
            }
        }
        Check.same("the face", new TreeSet<>(FACE).toString(), found.toString());
        for (Method m : c.getDeclaredMethods()) {
            boolean isPublic = Modifier.isPublic(m.getModifiers());
            Check.holds("is public or private: " + m, m.isSynthetic() || isPublic || Modifier.isPrivate(m.getModifiers()));
            Check.holds("no other method bears the name: " + m, isPublic || !names.contains(m.getName()));
        }
        for (Class<?> inside : c.getDeclaredClasses()) {
            for (Method m : inside.getDeclaredMethods()) {
                Check.holds("no method inside bears the name: " + m, !names.contains(m.getName()));
            }
        }
        for (Field f : c.getDeclaredFields()) {
            boolean isNone = f.getName().equals("NONE");
            Check.holds("is private but for NONE: " + f, f.isSynthetic() || isNone == Modifier.isPublic(f.getModifiers())
                && (isNone || Modifier.isPrivate(f.getModifiers())));
        }
        Constructor<?>[] made = c.getDeclaredConstructors();
        Check.holds("one constructor", made.length == 1 && made[0].getParameterCount() == 0 && Modifier.isPublic(made[0].getModifiers()));
    }

    private static void sizes(Class<?> c) {
        int fields = 0;
        for (Field f : c.getDeclaredFields()) {
            boolean isStatic = Modifier.isStatic(f.getModifiers());
            Check.holds("a static field is final: " + f, !isStatic || Modifier.isFinal(f.getModifiers()));
            fields += isStatic ? 0 : 1;
        }
        Check.holds(fields + " fields of " + c, fields <= 20);
        for (Method m : c.getDeclaredMethods()) {
            Check.holds("parameters of " + m, m.getParameterCount() <= 7);
        }
    }

    private static void classes() {
        Class<?>[] inside = RuleSheets.class.getDeclaredClasses();
        Check.holds("at most twelve classes", inside.length <= 11);
        sizes(RuleSheets.class);
        for (Class<?> c : inside) {
            Check.holds("is private and static: " + c, Modifier.isPrivate(c.getModifiers()) && Modifier.isStatic(c.getModifiers()));
            Check.holds("has no class of its own: " + c, c.getDeclaredClasses().length == 0);
            sizes(c);
        }
    }

    private static void text() throws IOException {
        List<String> lines = Files.readAllLines(Path.of("src/main/java/RuleSheets.java"));
        int begin = 0;
        for (int k = 0; k < lines.size(); k++) {
            String line = lines.get(k);
            String code = line.strip();
            Check.holds("what is imported: " + line, !code.startsWith("import ") || code.equals("import java.util.Arrays;"));
            boolean isComment = code.startsWith("*") || code.startsWith("/*") || code.startsWith("//");
            for (String word : List.of("->", "::", "synchronized", "finally", "assert ", "try ", "catch", "System.out", "float", "double")) {
                Check.holds("'" + word + "' in line " + (k + 1), isComment || !code.contains(word));
            }
            if (code.endsWith("{") && code.contains("(") && (line.startsWith("    p") || line.startsWith("        ") && !line.startsWith("         "))) {
                begin = k;
            }
            if (line.equals("    }") || line.equals("        }")) {
                Check.holds("the lines of a method down to " + (k + 1), k - begin < 60 || line.equals("    }"));
            }
        }
    }

    public static void main(String[] args) throws IOException {
        face();
        classes();
        text();
        Check.finish();
    }
}
