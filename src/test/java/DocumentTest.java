import java.lang.reflect.Method;
import java.lang.reflect.Modifier;
import java.util.Arrays;
import java.util.regex.Matcher;
import java.util.regex.Pattern;

/** The document from its first line to its last: every sentence in its order, with calls that fail if it does not hold. */
public final class DocumentTest {
    public static void main(String[] args) {
        whatItIs();
        waysFromNought();
        calls512();
        face();
        DocumentText.walk();
        DocumentLetters.walk();
        DocumentTicks.walk();
        DocumentCalls.walk();
        DocumentDone.walk();
        DocumentAsked.walk();
        notPromised();
        Due.that("all of the document was named, up to: " + Document.next(), Document.isAtEnd());
        Due.end();
    }

    private static void whatItIs() {
        Due.passOver("# GreatProbes ## What it is");
        Due.next("How great a letter may be: ways of hops, each with a limit; too great ones told back, falsely, without a size, or not at all;");
        GreatProbes hops = Due.laid("way;hop 500 tell;way;hop 500 wrong;way;hop 500 old;way;hop 500 silent;");
        int[] due = {502, 462, 252, 1};
        for (int i = 0; i < 4; i++) {
            Due.is("at its limit", hops.send(i, 500), 0);
            Due.is("too great", hops.send(i, 501), due[i]);
        }
        Due.next("letters lost by crowding; what is told back believed, checked or not;");
        Due.is("crowded out", Due.laid("way;loss 2;").send(0, 1), 1);
        String[] beliefs = {"all", "checked", "none"};
        for (int limit = 59; limit <= 60; limit++) {
            for (int m = 0; m < 3; m++) {
                GreatProbes x = Due.laid("way;hop " + limit + " tell;believe " + beliefs[m] + ";");
                Due.is("told", x.send(0, 61), 2 + limit);
                Due.is(limit + " is lost by " + beliefs[m], x.way(0, 8), m == 2 || m == 1 && limit < 60 ? 1 : 0);
            }
        }
        Due.next("the greatest size felt for by probes with padding, halving what is between; black holes felt by loss of great ones;"
            + " ages after which it is tried again;");
        GreatProbes felt = Due.laid("way;hop 197 silent;base 196;top 200;age 2;");
        Due.is("half of what is between", felt.probe(0), 198);
        Due.is("its padding", felt.padding(0, 150), 48);
        felt.tick(4);
        Due.way("found", felt, 0, 197, 197, 1, 0, 0, 0, 0, 8, 3);
        felt.tick(2);
        Due.way("of age", felt, 0, 197, 200, 0, 0, 0, 0, 0, 10, 3);
        felt.limit(0, 0, 196);
        felt.tick(3);
        Due.is("a black hole", felt.way(0, 6), 1);
        Due.next("tick by tick on many ways at once, tried ahead, by other beliefs; what a letter would meet;");
        GreatProbes ways = Due.laid("way;hop 197 old;way;hop 199 tell;base 20;top 200;");
        int ahead = ways.ahead(5, 1, 0);
        Due.is("by all", ways.best(0), 2);
        Due.is("meets", ways.meets(0, 198, 0), 101);
        ways.tick(5);
        Due.is("low of way 0", ways.way(0, 0), 195);
        Due.is("low of way 1", ways.way(1, 0), ahead);
        Due.next("limits, kinds, losses told anew; undone; told in a text with the first fault.");
        ways.limit(0, 0, 300);
        ways.kind(0, 0, 1);
        ways.loss(0, 3);
        Due.is("limit", ways.hop(0, 0, 0), 300);
        Due.is("kind", ways.hop(0, 0, 1), 1);
        Due.is("loss", ways.way(0, 12), 3);
        Due.is("undone", ways.undo(), 3);
        Due.is("loss", ways.way(0, 12), 0);
        Due.is("fault", Due.written("way;hip").fault(), 4);
    }

    private static void waysFromNought() {
        Due.passOver("======== 1");
        Due.next("WAYS are 0, 1, ..");
        GreatProbes x = Due.laid("way;way;hop 30 old;way;hop 40 old;hop 50 old;");
        for (int i = 0; i < 3; i++) {
            Due.is("hops of way " + i, x.way(i, 11), i);
        }
        Due.is("the last hop of the last way", x.hop(2, 1, 0), 50);
        Due.is("none ahead of 0", x.way(-1, 11), GreatProbes.BAD);
        Due.is("none behind 2", x.way(3, 11), GreatProbes.BAD);
    }

    private static void calls512() {
        Due.next("An object is used for at most 512 calls after it has been made; what later calls answer is free.");
        GreatProbes x = new GreatProbes();
        for (int n = 0; n < 511; n++) {
            Due.is("call " + (n + 1), x.send(0, 300), 0);
        }
        Due.is("call 512", x.way(0, 7), 511);
        GreatProbes y = new GreatProbes();
        for (int n = 0; n < 511; n++) {
            Due.is("call " + (n + 1), y.loss(2, n % 2 + 1), n == 0 ? 0 : (n + 1) % 2 + 1);
        }
        Due.is("call 512", y.undo(), 3);
    }

    private static void face() {
        Due.passOver("## The public face ```java");
        String told = Document.between("```java ", " ```");
        Due.next(told);
        Matcher constant = Pattern.compile("(\\w+) = (-\\d)[,;]").matcher(told);
        int constants = 0;
        while (constant.find()) {
            constants++;
            Due.is(constant.group(1), constantHere(constant.group(1)), Integer.parseInt(constant.group(2)));
        }
        Due.is("constants", constants, 4);
        Due.that("public final", Modifier.isFinal(GreatProbes.class.getModifiers()) && Modifier.isPublic(GreatProbes.class.getModifiers()));
        Matcher line = Pattern.compile("public int (\\w+)\\(([^)]*)\\);").matcher(told);
        int lines = 0;
        while (line.find()) {
            lines++;
            Due.that(line.group(), isPublicHere(line.group(1), line.group(2).isEmpty() ? 0 : line.group(2).split(",").length));
        }
        Due.is("methods", lines, 21);
    }

    /** Asked for when the test runs: by its name in the code it would have been put in when the test was compiled. */
    private static int constantHere(String name) {
        try {
            return GreatProbes.class.getField(name).getInt(null);
        } catch (ReflectiveOperationException e) {
            return 0;
        }
    }

    private static boolean isPublicHere(String name, int numbers) {
        Class<?>[] types = new Class<?>[numbers];
        Arrays.fill(types, int.class);
        try {
            Method method = GreatProbes.class.getMethod(name, types);
            return method.getReturnType() == int.class && !Modifier.isStatic(method.getModifiers());
        } catch (NoSuchMethodException e) {
            return false;
        }
    }

    private static void notPromised() {
        Due.passOver("## Not promised How the state is held inside the object is free, as are the speed of each call, the text of toString and the"
            + " behaviour of equals and hashCode. Use of one object from several threads at once is not promised to be safe. Nothing is promised"
            + " beyond the answers and state changes described above, and nothing about an object after its 512th call.");
    }
}
