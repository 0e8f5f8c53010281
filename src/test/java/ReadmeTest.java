import java.lang.reflect.Method;
import java.nio.file.Files;
import java.nio.file.Path;
import java.util.Arrays;
import java.util.TreeSet;
import java.util.regex.Matcher;
import java.util.regex.Pattern;

/** What README.md says is so: its calls answer as it tells, and the calls, tests and files that it names are those that there are. */
public final class ReadmeTest {
    private static final Pattern CALL = Pattern.compile("x\\.(\\w+)\\(([-\\d, ]*)\\); +// (-?\\d+|BAD|NO|FULL|NONE): .+");
    private static final Pattern TEXT = Pattern.compile("String text = \"([^\"]*)\";");
    private static final String[] AROUND = {"GreatProbes x = new GreatProbes();", "for (int n = 0; n < text.length(); n++) {", "x.write(text.charAt(n));", "}"};

    public static void main(String[] args) throws Exception {
        String readme = Files.readString(Path.of("README.md"));
        int start = readme.indexOf("```java\n") + "```java\n".length();
        answers(readme.substring(start, readme.indexOf("```", start)));
        allCallsAreNamed(readme);
        testsAreThose(readme);
        filesAreThere(readme);
        Due.end();
    }

    private static void answers(String block) throws Exception {
        GreatProbes x = new GreatProbes();
        int calls = 0;
        for (String line : block.split("\n")) {
            Matcher call = CALL.matcher(line);
            Matcher text = TEXT.matcher(line);
            if (call.matches()) {
                calls++;
                Due.is("README: " + line, answer(x, call.group(1), call.group(2)), number(call.group(3)));
            } else if (text.matches()) {
                Due.write(x, text.group(1));
            } else {
                Due.that("a line that this test knows: " + line, Arrays.stream(AROUND).anyMatch(known -> line.trim().startsWith(known)));
            }
        }
        Due.that("calls with an answer: " + calls, calls > 20);
    }

    private static int answer(GreatProbes x, String name, String list) throws Exception {
        int[] numbers = list.isBlank() ? new int[0] : Arrays.stream(list.split(",")).mapToInt(n -> Integer.parseInt(n.trim())).toArray();
        Class<?>[] types = new Class<?>[numbers.length];
        Arrays.fill(types, int.class);
        Method method = GreatProbes.class.getMethod(name, types);
        return (Integer) method.invoke(x, Arrays.stream(numbers).boxed().toArray());
    }

    private static int number(String told) {
        switch (told) {
            case "BAD": return GreatProbes.BAD;
            case "NO": return GreatProbes.NO;
            case "FULL": return GreatProbes.FULL;
            case "NONE": return GreatProbes.NONE;
            default: return Integer.parseInt(told);
        }
    }

    private static void allCallsAreNamed(String readme) {
        TreeSet<String> named = words(readme.substring(readme.indexOf("| calls |"), readme.indexOf("## Tests")), "`([a-z]+)`");
        TreeSet<String> there = new TreeSet<>();
        for (Method method : GreatProbes.class.getMethods()) {
            if (method.getDeclaringClass() == GreatProbes.class) {
                there.add(method.getName());
            }
        }
        Due.that("the calls named " + named + " are those that there are " + there, named.equals(there));
    }

    private static void testsAreThose(String readme) throws Exception {
        TreeSet<String> there = new TreeSet<>();
        try (var files = Files.list(Path.of("src/test/java"))) {
            files.forEach(file -> there.add(file.getFileName().toString().replace(".java", "")));
        }
        TreeSet<String> named = words(readme.substring(readme.indexOf("- `DocumentTest`")), "`([A-Z]\\w+)`");
        Due.that("the tests and helpers named " + named + " are those that there are " + there, named.equals(there));
    }

    private static void filesAreThere(String readme) {
        TreeSet<String> named = words(readme, "`((?:\\.\\./|\\.ci/|src/)[\\w./]+)`");
        for (String file : named) {
            Due.that(file + " is there", Files.exists(Path.of(file)));
        }
        Due.that("files are named: " + named, named.size() >= 6);
    }

    private static TreeSet<String> words(String text, String form) {
        TreeSet<String> found = new TreeSet<>();
        Matcher word = Pattern.compile(form).matcher(text);
        while (word.find()) {
            found.add(word.group(1));
        }
        return found;
    }
}
