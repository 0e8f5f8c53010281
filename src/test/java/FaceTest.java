import java.lang.reflect.Constructor;
import java.lang.reflect.Field;
import java.lang.reflect.Method;
import java.lang.reflect.Modifier;
import java.nio.file.Files;
import java.nio.file.Path;
import java.util.Arrays;
import java.util.TreeSet;

/** The document's public face, and what of LANGUAGE.md can be seen from outside or in the words of the file. */
public final class FaceTest {
    private static final String[] FACE = {
        "write 1", "wipe 0", "fault 0", "lay 0", "tick 1", "send 2", "limit 3", "kind 3", "loss 2", "believe 1", "undo 0",
        "way 2", "hop 3", "probe 1", "padding 2", "meets 3", "draw 2", "ahead 3", "soon 2", "best 1", "count 1"};

    public static void main(String[] args) throws Exception {
        methods();
        fieldsAndClasses();
        words();
        Due.end();
    }

    private static void methods() {
        TreeSet<String> seen = new TreeSet<>();
        for (Method method : GreatProbes.class.getDeclaredMethods()) {
            if (Modifier.isPrivate(method.getModifiers())) {
                Due.that(method.getName() + " bears a public name", !isPublicName(method.getName()));
                continue;
            }
            Due.that(method + " is public, of the object and not static", Modifier.isPublic(method.getModifiers())
                && !Modifier.isStatic(method.getModifiers()) && method.getReturnType() == int.class);
            for (Class<?> type : method.getParameterTypes()) {
                Due.that(method + " takes int", type == int.class);
            }
            seen.add(method.getName() + " " + method.getParameterCount());
        }
        Due.that("the face is " + seen, seen.equals(new TreeSet<>(Arrays.asList(FACE))));
        Constructor<?>[] made = GreatProbes.class.getDeclaredConstructors();
        Due.that("one public constructor", made.length == 1 && Modifier.isPublic(made[0].getModifiers()) && made[0].getParameterCount() == 0);
    }

    private static boolean isPublicName(String name) {
        return Arrays.stream(FACE).anyMatch(f -> f.startsWith(name + " "));
    }

    private static void fieldsAndClasses() {
        Due.is("BAD", GreatProbes.BAD, -1);
        Due.is("NO", GreatProbes.NO, -2);
        Due.is("FULL", GreatProbes.FULL, -3);
        Due.is("NONE", GreatProbes.NONE, -4);
        TreeSet<String> open = new TreeSet<>();
        for (Field field : GreatProbes.class.getDeclaredFields()) {
            if (!Modifier.isPrivate(field.getModifiers())) {
                open.add(field.getName());
            }
            Due.that(field + " is final if static", !Modifier.isStatic(field.getModifiers()) || Modifier.isFinal(field.getModifiers()));
        }
        Due.that("open fields " + open, open.equals(new TreeSet<>(Arrays.asList("BAD", "NO", "FULL", "NONE"))));
        Due.that("public and final", Modifier.isPublic(GreatProbes.class.getModifiers()) && Modifier.isFinal(GreatProbes.class.getModifiers()));
        Due.that("at most twelve classes", GreatProbes.class.getDeclaredClasses().length < 12);
        for (Class<?> inside : GreatProbes.class.getDeclaredClasses()) {
            Due.that(inside + " is static", Modifier.isStatic(inside.getModifiers()));
            long fields = Arrays.stream(inside.getDeclaredFields()).filter(f -> !Modifier.isStatic(f.getModifiers())).count();
            Due.that(inside + " has " + fields + " fields", fields <= 20);
            for (Method method : inside.getDeclaredMethods()) {
                Due.that(method + " bears a public name", !isPublicName(method.getName()));
                Due.that(method + " takes seven at most", method.getParameterCount() <= 7);
            }
        }
    }

    private static void words() throws Exception {
        String source = Files.readString(Path.of("src/main/java/GreatProbes.java"));
        String code = source.replaceAll("(?s)/\\*.*?\\*/", " ").replaceAll("//[^\n]*", " ").replaceAll("\"[^\"\n]*\"", "\"\"");
        String[] ruledOut = {"throw", "throws", "try", "catch", "synchronized", "assert", "import", "package", "protected",
            "Thread", "Random", "System.out", "currentTimeMillis", "nanoTime", "File", "Object", "hashCode", "toString", "var"};
        for (String word : ruledOut) {
            Due.that("the file has " + word, !code.matches("(?s).*\\b" + word.replace(".", "\\.") + "\\b.*"));
        }
        Due.that("the file has -> or ::", !code.contains("->") && !code.contains("::"));
        Due.that("the file has signs of 127 at most", source.chars().allMatch(c -> c < 127));
    }
}
