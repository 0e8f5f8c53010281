import java.io.IOException;
import java.nio.file.Files;
import java.nio.file.Path;
import java.util.ArrayList;
import java.util.List;
import java.util.concurrent.Callable;
import java.util.concurrent.ExecutorService;
import java.util.concurrent.Executors;
import java.util.concurrent.Future;
import java.util.concurrent.TimeUnit;
import javax.tools.JavaCompiler;
import javax.tools.ToolProvider;

/** A test of the tests: copies of the class by which a sentence does not hold must fail under just that sentence. */
public final class Breaks {
    private static final Path SOURCE = Path.of("src/main/java/GreatProbes.java");
    private static final Path LIST = Path.of("src/breaks/breaks.txt");
    private static final Path TESTS = Path.of("src/test/java");
    private static final JavaCompiler COMPILER = ToolProvider.getSystemJavaCompiler();

    /** What is put for what, and the first words of the sentence that does not hold then. */
    record Break(String sentence, String from, String to) {
    }

    private final Path room;
    private final String source;

    private Breaks(Path room, String source) {
        this.room = room;
        this.source = source;
    }

    public static void main(String[] args) throws Exception {
        Path room = Files.createTempDirectory("breaks");
        Breaks all = new Breaks(room, plain(Files.readString(SOURCE)));
        all.compileTests();
        boolean holds = all.uncutHolds() & all.callsAreFew() & all.allAreSeen(read(Files.readAllLines(LIST)));
        System.exit(holds ? 0 : 1);
    }

    /** Without comments and with single blanks, so that a break need not know how lines are cut. */
    private static String plain(String text) {
        return text.replaceAll("(?s)/\\*.*?\\*/", " ").replaceAll("//[^\n]*", " ").replaceAll("\\s+", " ");
    }

    private static List<Break> read(List<String> lines) {
        List<Break> breaks = new ArrayList<>();
        String sentence = "";
        String from = "";
        for (String line : lines) {
            if (line.startsWith("> ")) {
                sentence = line.substring(2);
            } else if (line.startsWith("- ")) {
                from = line.substring(2);
            } else if (line.startsWith("+")) {
                breaks.add(new Break(sentence, from, line.substring(1).trim()));
            }
        }
        return breaks;
    }

    private void compileTests() throws IOException {
        Path out = Files.createDirectories(room.resolve("tests"));
        List<String> words = new ArrayList<>(List.of("-nowarn", "-d", out.toString(), SOURCE.toString()));
        try (var files = Files.list(TESTS)) {
            files.filter(f -> f.toString().endsWith(".java")).forEach(f -> words.add(f.toString()));
        }
        if (COMPILER.run(null, null, null, words.toArray(new String[0])) != 0) {
            throw new IllegalStateException("the tests do not compile");
        }
    }

    /** What the test prints with this text as the class, and 'exit' with its code as the last line. */
    private String run(String name, String text, String test) throws Exception {
        Path place = Files.createDirectories(room.resolve(name));
        Path file = place.resolve("GreatProbes.java");
        Files.writeString(file, text);
        if (COMPILER.run(null, null, null, "-nowarn", "-d", place.toString(), file.toString()) != 0) {
            return "does not compile";
        }
        String path = place + java.io.File.pathSeparator + room.resolve("tests");
        Path told = place.resolve("told");
        Process process = new ProcessBuilder(Path.of(System.getProperty("java.home"), "bin", "java").toString(),
            "-XX:TieredStopAtLevel=1", "-cp", path, test).redirectErrorStream(true).redirectOutput(told.toFile()).start();
        if (!process.waitFor(120, TimeUnit.SECONDS)) {
            process.destroyForcibly();
            return "does not end";
        }
        return Files.readString(told) + "exit " + process.exitValue();
    }

    private boolean uncutHolds() throws Exception {
        String told = run("uncut", source, "DocumentTest");
        return isSo("the class as it stands: " + told, told.equals("exit 0"));
    }

    /** The document promises nothing behind the 512th call of an object; FaceTest alone goes on, and looks at no answer then. */
    private boolean callsAreFew() throws Exception {
        String counted = source.replaceAll("(public int \\w+\\([^)]*\\) \\{)", "$1 if (++calls == 513) { System.out.println(\"a 513th call\"); }")
            .replaceFirst("private int undoable;", "private int undoable; private int calls;");
        boolean few = isSo("the calls are counted", counted.contains("private int calls;"));
        try (var files = Files.list(TESTS)) {
            for (Path file : files.filter(f -> f.toString().matches(".*(?<!Face)Test\\.java")).sorted().toList()) {
                String test = file.getFileName().toString().replace(".java", "");
                String told = run("counted", counted, test);
                few &= isSo(test + " asks an object for more than 512 calls: " + told, told.equals("exit 0"));
            }
        }
        return few;
    }

    private boolean allAreSeen(List<Break> breaks) throws Exception {
        ExecutorService workers = Executors.newFixedThreadPool(Runtime.getRuntime().availableProcessors());
        List<Future<String>> faults = new ArrayList<>();
        for (int n = 0; n < breaks.size(); n++) {
            Break one = breaks.get(n);
            String name = "break" + n;
            Callable<String> look = () -> faultOf(name, one);
            faults.add(workers.submit(look));
        }
        int unseen = 0;
        for (int n = 0; n < breaks.size(); n++) {
            String fault = faults.get(n).get();
            if (!fault.isEmpty()) {
                unseen++;
                Break one = breaks.get(n);
                System.out.println(fault + ": [" + one.sentence() + "] - " + one.from() + " + " + one.to());
            }
        }
        workers.shutdown();
        System.out.println(breaks.size() + " breaks, " + unseen + " of them not seen as they should be");
        return unseen == 0;
    }

    private String faultOf(String name, Break one) throws Exception {
        int at = source.indexOf(one.from());
        if (at < 0 || source.indexOf(one.from(), at + 1) >= 0) {
            return at < 0 ? "stands nowhere" : "stands more than once";
        }
        String told = run(name, source.substring(0, at) + one.to() + source.substring(at + one.from().length()), "DocumentTest");
        if (told.equals("does not compile") || told.equals("exit 0")) {
            return told.equals("exit 0") ? "not seen" : told;
        }
        return told.contains("[" + one.sentence()) ? "" : "seen, but not under its sentence (" + told.lines().findFirst().orElse("") + ")";
    }

    private static boolean isSo(String what, boolean holds) {
        if (!holds) {
            System.out.println("not so: " + what);
        }
        return holds;
    }
}
