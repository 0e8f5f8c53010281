import java.lang.reflect.Constructor;
import java.lang.reflect.Field;
import java.lang.reflect.InvocationTargetException;
import java.lang.reflect.Method;
import java.lang.reflect.Modifier;
import java.nio.file.Files;
import java.nio.file.Path;
import java.util.Arrays;
import java.util.Random;
import java.util.TreeSet;

/** The document's public face, and what of LANGUAGE.md can be seen from outside or in the words of the file. */
public final class FaceTest {
    private static final String[] FACE = {
        "write 1", "wipe 0", "fault 0", "lay 0", "tick 1", "send 2", "limit 3", "kind 3", "loss 2", "believe 1", "undo 0",
        "way 2", "hop 3", "probe 1", "padding 2", "meets 3", "draw 2", "ahead 3", "soon 2", "best 1", "count 1"};

    public static void main(String[] args) throws Exception {
        methods();
        fieldsAndClasses();
        words();
        nothingIsThrown();
        Due.end();
    }

    private static void methods() {
        TreeSet<String> seen = new TreeSet<>();
        for (Method method : GreatProbes.class.getDeclaredMethods()) {
            if (Modifier.isPrivate(method.getModifiers())) {
                Due.that(method.getName() + " bears a public name", !isPublicName(method.getName()));
                continue;
            }
            Due.that(method + " is public, of the object and not static", Modifier.isPublic(method.getModifiers())
                && !Modifier.isStatic(method.getModifiers()) && method.getReturnType() == int.class);
            for (Class<?> type : method.getParameterTypes()) {
                Due.that(method + " takes int", type == int.class);
            }
            seen.add(method.getName() + " " + method.getParameterCount());
        }
        Due.that("the face is " + seen, seen.equals(new TreeSet<>(Arrays.asList(FACE))));
        Constructor<?>[] made = GreatProbes.class.getDeclaredConstructors();
        Due.that("one public constructor", made.length == 1 && Modifier.isPublic(made[0].getModifiers()) && made[0].getParameterCount() == 0);
    }

    private static boolean isPublicName(String name) {
        return Arrays.stream(FACE).anyMatch(f -> f.startsWith(name + " "));
    }

    private static void fieldsAndClasses() {
        Due.is("BAD", GreatProbes.BAD, -1);
        Due.is("NO", GreatProbes.NO, -2);
        Due.is("FULL", GreatProbes.FULL, -3);
        Due.is("NONE", GreatProbes.NONE, -4);
        TreeSet<String> open = new TreeSet<>();
        for (Field field : GreatProbes.class.getDeclaredFields()) {
            if (!Modifier.isPrivate(field.getModifiers())) {
                open.add(field.getName());
            }
            Due.that(field + " is final if static", !Modifier.isStatic(field.getModifiers()) || Modifier.isFinal(field.getModifiers()));
        }
        Due.that("open fields " + open, open.equals(new TreeSet<>(Arrays.asList("BAD", "NO", "FULL", "NONE"))));
        Due.that("public and final", Modifier.isPublic(GreatProbes.class.getModifiers()) && Modifier.isFinal(GreatProbes.class.getModifiers()));
        Due.that("at most twelve classes", GreatProbes.class.getDeclaredClasses().length < 12);
        for (Class<?> inside : GreatProbes.class.getDeclaredClasses()) {
            Due.that(inside + " is static", Modifier.isStatic(inside.getModifiers()));
            long fields = Arrays.stream(inside.getDeclaredFields()).filter(f -> !Modifier.isStatic(f.getModifiers())).count();
            Due.that(inside + " has " + fields + " fields", fields <= 20);
            for (Method method : inside.getDeclaredMethods()) {
                Due.that(method + " bears a public name", !isPublicName(method.getName()));
                Due.that(method + " takes seven at most", method.getParameterCount() <= 7);
            }
        }
    }

    private static void words() throws Exception {
        String source = Files.readString(Path.of("src/main/java/GreatProbes.java"));
        String code = source.replaceAll("(?s)/\\*.*?\\*/", " ").replaceAll("//[^\n]*", " ").replaceAll("\"[^\"\n]*\"", "\"\"");
        String[] ruledOut = {"throw", "throws", "try", "catch", "synchronized", "assert", "import", "package", "protected",
            "Thread", "Random", "System.out", "currentTimeMillis", "nanoTime", "File", "Object", "hashCode", "toString", "var"};
        for (String word : ruledOut) {
            Due.that("the file has " + word, !code.matches("(?s).*\\b" + word.replace(".", "\\.") + "\\b.*"));
        }
        Due.that("the file has -> or ::", !code.contains("->") && !code.contains("::"));
        Due.that("the file has signs of 127 at most", source.chars().allMatch(c -> c < 127));
    }

    /** By rule 7 of LANGUAGE.md no call may throw in any state, so this run goes on where the document promises no answers. */
    private static void nothingIsThrown() throws Exception {
        Random random = new Random(22);
        int[] odd = {0, 1, -1, 2, 3, 4, 5, 6, 7, 11, 12, 13, 19, 20, 59, 60, 99, 100, 240, 998, 999, 1000, 9999, 10000, 65536, -65536,
            Integer.MAX_VALUE, Integer.MIN_VALUE, Integer.MAX_VALUE - 1};
        String text = "way;hop 999 old;hop 20 wrong;way;way;hop 333 silent;loss 99;way;hop 640 tell;base 20;top 999;age 1;believe all;draws 9999;";
        Method[] calls = Arrays.stream(GreatProbes.class.getDeclaredMethods()).filter(m -> Modifier.isPublic(m.getModifiers())).toArray(Method[]::new);
        for (int round = 0; round < 40; round++) {
            GreatProbes x = new GreatProbes();
            for (int n = 0; n < 6000; n++) {
                Method call = calls[random.nextInt(calls.length)];
                Object[] numbers = new Object[call.getParameterCount()];
                for (int k = 0; k < numbers.length; k++) {
                    numbers[k] = odd[random.nextInt(random.nextBoolean() ? 8 : odd.length)];
                }
                try {
                    call.invoke(x, numbers);
                } catch (InvocationTargetException e) {
                    Due.that(call.getName() + Arrays.toString(numbers) + " throws " + e.getCause(), false);
                    return;
                }
                if (n % 500 == 250 + round) {
                    x.wipe();
                    text.chars().limit(random.nextInt(text.length() * 2)).forEach(x::write);
                }
            }
        }
        sentWithoutEnd();
    }

    private static void sentWithoutEnd() {
        GreatProbes x = new GreatProbes();
        for (int n = 0; n < 110000; n++) {
            x.send(n % 3, 999);
        }
        for (int n = 0; n < 210; n++) {
            x.tick(99);
            x.ahead(99, 0, 4);
            x.best(n % 3);
        }
    }
}
