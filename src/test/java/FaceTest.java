import java.io.IOException;
import java.lang.reflect.Constructor;
import java.lang.reflect.Field;
import java.lang.reflect.Method;
import java.lang.reflect.Modifier;
import java.nio.file.Files;
import java.nio.file.Path;
import java.util.ArrayList;
import java.util.Arrays;
import java.util.List;
import java.util.TreeSet;

/** The document's public face, and those rules of LANGUAGE.md that can be seen from outside or in the text. */
public final class FaceTest {
    private static final Check CHECK = new Check("FaceTest");
    private static final String ARGUMENT = "IllegalArgumentException";
    private static final String INDEX = "IndexOutOfBoundsException";
    private static final String STATE = "IllegalStateException";

    public static void main(String[] args) throws IOException {
        CHECK.holds("public final", NearPicture.class.getModifiers() == (Modifier.PUBLIC | Modifier.FINAL));
        methods();
        constructorAndConstants();
        privateNames();
        text(Files.readString(Path.of("src/main/java/NearPicture.java")));
        CHECK.finish();
    }

    private static String face(String name, Class<?> answer, int arguments, String... thrown) {
        return answer + " " + name + " " + arguments + " " + Arrays.toString(thrown);
    }

    private static void methods() {
        TreeSet<String> due = new TreeSet<>(List.of(
            face("canvas", void.class, 4, ARGUMENT), face("draw", void.class, 8, INDEX, ARGUMENT),
            face("at", int.class, 3, INDEX), face("measures", void.class, 5, ARGUMENT),
            face("pack", int.class, 1, ARGUMENT), face("size", int.class, 0), face("out", int.class, 1, INDEX),
            face("feed", int.class, 5, STATE), face("end", void.class, 1, ARGUMENT),
            face("change", int.class, 2, INDEX, ARGUMENT), face("turn", int.class, 0, STATE),
            face("unpack", int.class, 0), face("place", int.class, 0), face("about", int.class, 1, ARGUMENT, STATE),
            face("sample", int.class, 3, STATE, INDEX), face("learned", int.class, 2, INDEX, ARGUMENT)));
        TreeSet<String> got = new TreeSet<>();
        for (Method method : NearPicture.class.getDeclaredMethods()) {
            if (Modifier.isPrivate(method.getModifiers()) || method.isSynthetic()) {
                continue;
            }
            List<String> thrown = new ArrayList<>();
            for (Class<?> exception : method.getExceptionTypes()) {
                thrown.add(exception.getSimpleName());
            }
            for (Class<?> argument : method.getParameterTypes()) {
                CHECK.holds(method.getName() + " takes ints", argument == int.class);
            }
            CHECK.holds(method.getName() + " is public, no more", method.getModifiers() == Modifier.PUBLIC);
            got.add(face(method.getName(), method.getReturnType(), method.getParameterCount(), thrown.toArray(new String[0])));
        }
        CHECK.holds("methods " + got + " are " + due, got.equals(due));
    }

    private static void constructorAndConstants() {
        Constructor<?>[] made = NearPicture.class.getDeclaredConstructors();
        CHECK.same("constructors", made.length, 1);
        CHECK.holds("public, without arguments", made[0].getModifiers() == Modifier.PUBLIC && made[0].getParameterCount() == 0);
        for (Field field : NearPicture.class.getDeclaredFields()) {
            boolean isPrivate = Modifier.isPrivate(field.getModifiers());
            CHECK.holds(field.getName() + " is private or NONE", isPrivate || field.getName().equals("NONE"));
            CHECK.holds(field.getName() + " is no changing static", !Modifier.isStatic(field.getModifiers())
                || Modifier.isFinal(field.getModifiers()));
        }
        CHECK.same("NONE", NearPicture.NONE, -1);
    }

    private static void privateNames() {
        TreeSet<String> faces = new TreeSet<>();
        for (Method method : NearPicture.class.getMethods()) {
            faces.add(method.getName());
        }
        List<Class<?>> classes = new ArrayList<>(List.of(NearPicture.class.getDeclaredClasses()));
        CHECK.holds("some twelve classes", classes.size() < 12);
        classes.add(NearPicture.class);
        for (Class<?> inside : classes) {
            CHECK.holds(inside.getName() + " is static", inside == NearPicture.class || Modifier.isStatic(inside.getModifiers()));
            for (Method method : inside.getDeclaredMethods()) {
                boolean isFace = inside == NearPicture.class && Modifier.isPublic(method.getModifiers());
                CHECK.holds(inside.getName() + "." + method.getName() + " has a name of its own",
                    isFace || !faces.contains(method.getName()));
                CHECK.holds(method.getName() + " takes seven at most", isFace || method.getParameterCount() <= 7);
            }
        }
    }

    private static void text(String source) {
        for (String never : List.of("->", "::", "package ", "finally", "synchronized", "assert", "static {", "instanceof",
            "Exact(", "System.out", "Random", "getMessage", "null")) {
            CHECK.holds("no " + never, !source.contains(never));
        }
        for (String line : source.split("\n")) {
            CHECK.holds("only Arrays is imported: " + line, !line.startsWith("import") || line.equals("import java.util.Arrays;"));
            CHECK.holds("a plain line: " + line, line.length() <= 130 && !line.contains("\t"));
        }
    }
}
