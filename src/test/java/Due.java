import java.util.function.Supplier;
import java.util.function.ToIntFunction;

/** What the tests share: told answers are compared, wrong ones printed and counted. */
final class Due {
    private static int wrong = 0;
    private static String sentence = "";
    private static boolean hasLostItsWay = false;

    private Due() {
    }

    /** Names the words of the document to which the answers behind this are held; they must stand there just so. */
    static void sentence(String words) {
        sentence = "[" + words + "] ";
        that("these words stand in the document", Document.has(words));
    }

    /** As sentence(), and they must come just behind the ones named or passed over ahead of them. */
    static void next(String words) {
        sentence = "[" + words + "] ";
        comesNext(words);
    }

    /** Headings and the like, that say nothing which a call could break. */
    static void passOver(String words) {
        sentence = "";
        comesNext(words);
    }

    /** Told once: where the walk has lost its way, all that comes behind would be told, too. */
    private static void comesNext(String words) {
        if (!Document.goesOn(words) && !hasLostItsWay) {
            hasLostItsWay = true;
            tellWrong("not what comes next in the document: " + words + "; there stands: " + Document.next());
        }
    }

    private static void tellWrong(String what) {
        wrong++;
        System.out.println(sentence + what);
    }

    static void is(String call, int got, int want) {
        if (got != want) {
            tellWrong(call + " answered " + got + ", due is " + want);
        }
    }

    static void that(String what, boolean holds) {
        is(what, holds ? 1 : 0, 1);
    }

    /** Writes the text behind what stands, letter by letter. */
    static void write(GreatProbes x, String text) {
        int before = x.count(11);
        for (int n = 0; n < text.length(); n++) {
            is("write(" + (int) text.charAt(n) + ") in " + text, x.write(text.charAt(n)), before + n + 1);
        }
    }

    /** A new object with this text written. */
    static GreatProbes written(String text) {
        GreatProbes x = new GreatProbes();
        write(x, text);
        return x;
    }

    /** A new object with this text laid. */
    static GreatProbes laid(String text) {
        GreatProbes x = written(text);
        that("lay() of " + text, x.lay() > 0);
        return x;
    }

    /** What way(i, 0), way(i, 1), .. answer, as far as there are answers due. */
    static void way(String when, GreatProbes x, int i, int... want) {
        for (int what = 0; what < want.length; what++) {
            is(when + ": way(" + i + ", " + what + ")", x.way(i, what), want[what]);
        }
    }

    /** All that can be asked of an object without changing it, the text's letters apart. */
    static String picture(GreatProbes x) {
        StringBuilder all = new StringBuilder();
        for (int what = 0; what <= 11; what++) {
            all.append(x.count(what)).append(' ');
        }
        int ways = x.count(0);
        for (int i = 0; i < ways; i++) {
            int hops = x.way(i, 11);
            for (int what = 0; what <= 12; what++) {
                all.append(x.way(i, what)).append(' ');
            }
            for (int h = 0; h < hops; h++) {
                all.append(x.hop(i, h, 0)).append(' ').append(x.hop(i, h, 1)).append(' ');
            }
        }
        return all.append(x.fault()).toString();
    }

    static void unchanged(String call, GreatProbes x, String before) {
        String behind = picture(x);
        if (!behind.equals(before)) {
            tellWrong(call + " changed " + before + " to " + behind);
        }
    }

    /** A refused call: the answer that is due, and the object behind it goes on as one on which it was not called. */
    static void refuses(String call, Supplier<GreatProbes> made, ToIntFunction<GreatProbes> called, int want) {
        GreatProbes x = made.get();
        is(call, called.applyAsInt(x), want);
        same(call, x, made.get());
    }

    /** Compares what stands, what can be undone and what the text lays; of no use behind it are both objects. */
    static void same(String call, GreatProbes x, GreatProbes y) {
        unchanged(call, x, picture(y));
        is(call + ", then draw(0, 1)", x.draw(0, 1), y.draw(0, 1));
        is(call + ", then ahead(99, 0, 4)", x.ahead(99, 0, 4), y.ahead(99, 0, 4));
        int more = y.count(10);
        for (int n = 0; n < more; n++) {
            is(call + ", then undo()", x.undo(), y.undo());
            unchanged(call + ", then undo()", x, picture(y));
        }
        is(call + ", then undo()", x.undo(), GreatProbes.NO);
        is(call + ", then lay()", x.lay(), y.lay());
        unchanged(call + ", then lay()", x, picture(y));
    }

    static void end() {
        if (wrong != 0) {
            System.out.println(wrong + " answers are not as due");
            System.exit(1);
        }
    }
}
