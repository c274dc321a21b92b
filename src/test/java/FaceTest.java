import java.io.IOException;
import java.lang.reflect.Constructor;
import java.lang.reflect.Field;
import java.lang.reflect.Method;
import java.lang.reflect.Modifier;
import java.nio.file.Files;
import java.nio.file.Path;
import java.util.ArrayList;
import java.util.Arrays;
import java.util.List;
import java.util.TreeSet;

/** The document's public face, and those rules of LANGUAGE.md that can be seen from outside or in the text. */
public final class FaceTest {
    private static final Check CHECK = new Check("FaceTest");
    private static final String ARGUMENT = "IllegalArgumentException";
    private static final String INDEX = "IndexOutOfBoundsException";
    private static final String STATE = "IllegalStateException";

    public static void main(String[] args) throws IOException {
        CHECK.holds("public final", NearPicture.class.getModifiers() == (Modifier.PUBLIC | Modifier.FINAL));
        methods();
        constructorAndConstants();
        privateNames();
        text(Files.readString(Path.of("src/main/java/NearPicture.java")));
        CHECK.finish();
    }

    private static String face(String name, Class<?> answer, int arguments, String... thrown) {
        return answer + " " + name + " " + arguments + " " + Arrays.toString(thrown);
    }

    private static void methods() {
        TreeSet<String> due = new TreeSet<>(List.of(
            face("canvas", void.class, 4, ARGUMENT), face("draw", void.class, 8, INDEX, ARGUMENT),
            face("at", int.class, 3, INDEX), face("measures", void.class, 5, ARGUMENT),
            face("pack", int.class, 1, ARGUMENT), face("size", int.class, 0), face("out", int.class, 1, INDEX),
            face("feed", int.class, 5, STATE), face("end", void.class, 1, ARGUMENT),
            face("change", int.class, 2, INDEX, ARGUMENT), face("turn", int.class, 0, STATE),
            face("unpack", int.class, 0), face("place", int.class, 0), face("about", int.class, 1, ARGUMENT, STATE),
            face("sample", int.class, 3, STATE, INDEX), face("learned", int.class, 2, INDEX, ARGUMENT)));
        TreeSet<String> got = new TreeSet<>();
        for (Method method : NearPicture.class.getDeclaredMethods()) {
            if (Modifier.isPrivate(method.getModifiers()) || method.isSynthetic()) {
                continue;
            }
            List<String> thrown = new ArrayList<>();
            for (Class<?> exception : method.getExceptionTypes()) {
                thrown.add(exception.getSimpleName());
            }
            for (Class<?> argument : method.getParameterTypes()) {
                CHECK.holds(method.getName() + " takes ints", argument == int.class);
            }
            CHECK.holds(method.getName() + " is public, no more", method.getModifiers() == Modifier.PUBLIC);
            got.add(face(method.getName(), method.getReturnType(), method.getParameterCount(), thrown.toArray(new String[0])));
        }
        CHECK.holds("methods " + got + " are " + due, got.equals(due));
    }

    private static void constructorAndConstants() {
        Constructor<?>[] made = NearPicture.class.getDeclaredConstructors();
        CHECK.same("constructors", made.length, 1);
        CHECK.holds("public, without arguments", made[0].getModifiers() == Modifier.PUBLIC && made[0].getParameterCount() == 0);
        for (Field field : NearPicture.class.getDeclaredFields()) {
            boolean isPrivate = Modifier.isPrivate(field.getModifiers());
            CHECK.holds(field.getName() + " is private or NONE", isPrivate || field.getName().equals("NONE"));
            CHECK.holds(field.getName() + " is no changing static", !Modifier.isStatic(field.getModifiers())
                || Modifier.isFinal(field.getModifiers()));
        }
        CHECK.same("NONE", NearPicture.NONE, -1);
    }

    private static void privateNames() {
        TreeSet<String> faces = new TreeSet<>();
        for (Method method : NearPicture.class.getMethods()) {
            faces.add(method.getName());
        }
        List<Class<?>> classes = new ArrayList<>(List.of(NearPicture.class.getDeclaredClasses()));
        CHECK.holds("some twelve classes", classes.size() < 12);
        classes.add(NearPicture.class);
        for (Class<?> inside : classes) {
            CHECK.holds(inside.getName() + " is static", inside == NearPicture.class || Modifier.isStatic(inside.getModifiers()));
            fields(inside);
            for (Method method : inside.getDeclaredMethods()) {
                boolean isFace = inside == NearPicture.class && Modifier.isPublic(method.getModifiers());
                CHECK.holds(inside.getName() + "." + method.getName() + " has a name of its own",
                    isFace || !faces.contains(method.getName()));
                CHECK.holds(method.getName() + " takes seven at most", isFace || method.getParameterCount() <= 7);
            }
        }
    }

    /** Some twenty fields beside the constants, which are final; a class has those of the one it extends, too. */
    private static void fields(Class<?> inside) {
        int own = 0;
        for (Class<?> from = inside; from != Object.class; from = from.getSuperclass()) {
            for (Field field : from.getDeclaredFields()) {
                boolean isStatic = Modifier.isStatic(field.getModifiers());
                own += isStatic ? 0 : 1;
                CHECK.holds(field + " is final if it is static", !isStatic || Modifier.isFinal(field.getModifiers()));
            }
        }
        CHECK.holds(inside.getName() + " has some twenty fields: " + own, own <= 20);
    }

    /** Methods stay short: some sixty lines from the one that opens a method to the one that closes it. */
    private static void lengths(String[] lines) {
        for (int i = 0; i < lines.length; i++) {
            String indent = lines[i].startsWith("        ") ? "        " : "    ";
            boolean opens = lines[i].matches("( {4}| {8})[A-Za-z].*\\) (throws .*)?\\{") || lines[i].matches(" {12}throws .*\\{");
            if (!opens) {
                continue;
            }
            int end = i;
            while (end < lines.length && !lines[end].equals(indent + "}") && !lines[end].equals("    }")) {
                end++;
            }
            CHECK.holds("short from " + lines[i], end - i <= 60);
        }
    }

    /** Only the exceptions that rule 6 names are thrown and caught, without a text or cause. */
    private static void exceptions(String[] lines) {
        String allowed = "(IllegalStateException|IllegalArgumentException|IndexOutOfBoundsException)";
        for (String line : lines) {
            CHECK.holds("plain throw: " + line, !line.contains("throw ") || line.matches(" +throw new " + allowed + "\\(\\);"));
            CHECK.holds("plain catch: " + line, !line.contains("catch ") || line.matches(" +\\} catch \\(" + allowed + " refused\\) \\{"));
        }
    }

    private static void text(String source) {
        lengths(source.split("\n"));
        exceptions(source.split("\n"));
        for (String never : List.of("->", "::", "package ", "finally", "synchronized", "assert", "static {", "instanceof",
            "Exact(", "System.out", "Random", "getMessage", "null", "@", "double ", "float ", "Thread", "\" +", "+ \"")) {
            CHECK.holds("no " + never, !source.contains(never));
        }
        for (String line : source.split("\n")) {
            CHECK.holds("only Arrays is imported: " + line, !line.startsWith("import") || line.equals("import java.util.Arrays;"));
            CHECK.holds("a plain line: " + line, line.length() <= 130 && !line.contains("\t"));
        }
    }
}
