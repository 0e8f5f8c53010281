import java.io.IOException;
import java.nio.file.Files;
import java.nio.file.Path;

/** The terms of what is ahead, of changes and of refused calls, sentence by sentence: a part of DocumentTest. */
final class DocumentCalls {
    private static final int BAD = GreatProbes.BAD, NO = GreatProbes.NO, FULL = GreatProbes.FULL, NONE = GreatProbes.NONE;

    private DocumentCalls() {
    }

    static void walk() {
        Due.passOver("======== 3");
        ahead();
        soon();
        Due.passOver("```text");
        changes();
        undone();
        Due.passOver("```");
        noSuchNumber();
        notAsThingsStand();
        firstInOrder();
        textStays();
        orderOfTheFace();
    }

    /** DONE at 200; its HOP now passes 199: two misses, then a fall and 198, then 199. */
    private static GreatProbes aboutToFall() {
        GreatProbes x = Due.laid("way;hop 999 silent;way;base 196;top 200;");
        x.tick(3);
        x.limit(0, 0, 199);
        return x;
    }

    private static void ahead() {
        Due.next("AHEAD n TICKS (1 to 99): as they would go by (nothing changes by it).");
        int[][] due = {{200, 200, 1, 0, 1}, {200, 200, 1, 0, 2}, {198, 199, 0, 1, 3}, {199, 199, 1, 1, 3}};
        GreatProbes x = aboutToFall();
        for (int n = 1; n <= due.length; n++) {
            for (int what = 0; what < 5; what++) {
                Due.is("ahead(" + n + ", 0, " + what + ")", x.ahead(n, 0, what), due[n - 1][what]);
            }
        }
        Due.is("19 ticks of age", x.ahead(23, 0, 1), 199);
        Due.is("20 ticks of age", x.ahead(24, 0, 1), 200);
        Due.is("no ticks", x.ahead(0, 0, 0), BAD);
        Due.is("99 ticks", x.ahead(99, 0, 0), 199);
        Due.is("100 ticks", x.ahead(100, 0, 0), BAD);
        Due.same("ahead", x, aboutToFall());
    }

    private static void soon() {
        Due.next("SOON: behind how many TICKS (1 to 99) LOW is PASSES (or TOP, if that is less; BASE, if PASSES is less than BASE) first; none.");
        int[][] limitAndTicks = {{20, 1}, {195, 1}, {196, 1}, {197, 4}, {198, 1}, {199, 2}, {200, 3}, {201, 3}, {999, 3}};
        for (int[] row : limitAndTicks) {
            GreatProbes x = Due.laid("way;hop " + row[0] + " silent;base 196;top 200;");
            Due.is("soon with limit " + row[0], x.soon(0, 1), row[1]);
        }
        Due.is("without hops", Due.laid("way;base 196;top 200;").soon(0, 1), 3);
        GreatProbes found = Due.laid("way;hop 198 silent;base 196;top 200;");
        found.tick(1);
        Due.is("low is so already: one tick", found.soon(0, 1), 1);
        Due.is("none: 99 is told for 198", Due.laid("way;hop 197 old;base 20;top 200;").soon(0, 1), NONE);
        Due.is("behind the 99th", Due.laid("way;hop 100 silent;loss 25;draws 48;").soon(0, 1), 99);
        Due.is("none: behind the 100th", Due.laid("way;hop 100 silent;loss 30;draws 14;").soon(0, 1), NONE);
    }

    private static void changes() {
        Due.next("A change: TICKS, a LETTER sent by send(), a LIMIT, a KIND, a LOSS, what is believed, told anew.");
        GreatProbes x = aboutToFall();
        int[] answers = {x.undo(), x.undo(), x.undo()};
        Due.is("the limit", answers[0], 1);
        Due.is("three ticks", answers[1], 0);
        Due.is("no more", answers[2], NO);
        for (int which = 0; which < 6; which++) {
            GreatProbes y = twoWays();
            String before = Due.picture(y);
            Due.that("change " + which, change(y, which) >= 0);
            Due.is("two can be undone", y.count(10), 2);
            Due.that("something changed", !Due.picture(y).equals(before));
            Due.is("undo of change " + which, y.undo(), 1);
            Due.unchanged("undo of change " + which, y, before);
        }
        Due.write(x, "way;");
        x.fault();
        x.way(0, 0);
        x.ahead(9, 0, 0);
        x.wipe();
        Due.is("asking and the text are no changes", x.count(10), 0);
    }

    private static int change(GreatProbes x, int which) {
        switch (which) {
            case 0: return x.tick(7);
            case 1: return x.send(1, 400);
            case 2: return x.limit(0, 0, 310);
            case 3: return x.kind(0, 0, 1);
            case 4: return x.loss(1, 80);
            default: return x.believe(0);
        }
    }

    private static void undone() {
        Due.next("UNDONE is the latest change (the last 4 can be; behind LAID none can be).");
        GreatProbes x = Due.written("way;");
        for (int q = 1; q <= 6; q++) {
            x.loss(0, q);
            Due.is("can be", x.count(10), Math.min(q, 4));
        }
        for (int q = 5; q >= 2; q--) {
            Due.is("undo", x.undo(), q - 2);
            Due.is("loss", x.way(0, 12), q);
        }
        Due.is("no fifth", x.undo(), NO);
        Due.is("loss", x.way(0, 12), 2);
        x.loss(0, 9);
        x.tick(5);
        Due.is("lay", x.lay(), 1);
        Due.is("can be behind lay", x.count(10), 0);
        Due.is("none can be", x.undo(), NO);
        x.loss(0, 9);
        Due.is("one can be", x.undo(), 0);
        Due.is("no more", x.undo(), NO);
    }

    private static GreatProbes twoWays() {
        GreatProbes x = Due.laid("way;hop 300 tell;hop 400 old;way;");
        x.tick(4);
        return x;
    }

    private static void noSuchNumber() {
        Due.next("BAD: a number is none that is told (WAYS, HOPS such as there are).");
        GreatProbes x = twoWays();
        for (int i : new int[] {-1, 2, 3, 4, Integer.MIN_VALUE, Integer.MAX_VALUE}) {
            int[] answers = {x.send(i, 60), x.limit(i, 0, 60), x.kind(i, 0, 3), x.loss(i, 60), x.way(i, 0), x.hop(i, 0, 0), x.probe(i), x.padding(i, 0),
                x.meets(i, 60, 0), x.meets(i, 60, 1), x.draw(i, 0), x.ahead(1, i, 0), x.soon(i, 0), x.best(i)};
            for (int n = 0; n < answers.length; n++) {
                Due.is("call " + n + " of way " + i, answers[n], BAD);
            }
        }
        for (int h : new int[] {-1, 2, 5, 6, Integer.MIN_VALUE, Integer.MAX_VALUE}) {
            int[] answers = {x.limit(0, h, 60), x.kind(0, h, 3), x.hop(0, h, 0), x.hop(0, h, 1), x.limit(1, h, 60), x.hop(1, h, 1)};
            for (int n = 0; n < answers.length; n++) {
                Due.is("call " + n + " of hop " + h, answers[n], BAD);
            }
        }
        Due.is("no hop of way 1", x.hop(1, 0, 0), BAD);
        Due.is("no limit of way 1", x.limit(1, 0, 60), BAD);
        Due.is("no kind of way 1", x.kind(1, 0, 1), BAD);
        int[] others = {x.write(31), x.write(127), x.tick(0), x.tick(100), x.send(0, 0), x.send(0, 1000), x.limit(0, 0, 19), x.limit(0, 0, 1000),
            x.kind(0, 0, -1), x.kind(0, 0, 4), x.loss(0, -1), x.loss(0, 100), x.believe(-1), x.believe(3), x.way(0, -1), x.way(0, 13), x.hop(0, 0, -1),
            x.hop(0, 0, 2), x.padding(0, -1), x.padding(0, 1000), x.meets(0, 0, 0), x.meets(0, 1000, 0), x.meets(0, 60, -1), x.meets(0, 60, 2),
            x.draw(0, -1), x.draw(0, 10000), x.ahead(0, 0, 0), x.ahead(100, 0, 0), x.ahead(1, 0, -1), x.ahead(1, 0, 5), x.soon(0, -1), x.soon(0, 3),
            x.count(-1), x.count(12)};
        for (int n = 0; n < others.length; n++) {
            Due.is("other call " + n, others[n], BAD);
        }
        Due.same("calls that are BAD", x, twoWays());
    }

    private static void notAsThingsStand() {
        Due.next("NO: not as things stand. NONE: there is none. FULL.");
        GreatProbes x = new GreatProbes();
        int[] no = {x.lay(), x.undo(), x.limit(0, 0, 700), x.kind(0, 0, 0), x.loss(0, 0), x.believe(1), x.padding(0, 481)};
        for (int n = 0; n < no.length; n++) {
            Due.is("call " + n, no[n], NO);
        }
        GreatProbes done = Due.laid("way;hop 999 wrong;way;hop 300 wrong;base 200;top 200;");
        done.wipe();
        int[] none = {done.fault(), done.probe(0), done.padding(0, 0), done.meets(0, 999, 1)};
        for (int n = 0; n < none.length; n++) {
            Due.is("call " + n, none[n], NONE);
        }
        GreatProbes never = Due.laid("way;hop 197 old;loss 99;base 196;top 200;");
        Due.is("soon", never.soon(0, 0), NONE);
        Due.is("best", never.best(0), NONE);
        Due.is("full", Due.written(" ".repeat(240)).write(32), FULL);
    }

    private static void firstInOrder() {
        Due.next("Of several the first in this order, whatever the order at a call; nothing changes then.");
        Due.refuses("a bad letter for a full text", () -> Due.written(";".repeat(240)), x -> x.write(127), BAD);
        Due.refuses("a letter for a full text", () -> Due.written(";".repeat(240)), x -> x.write(126), FULL);
        Due.refuses("a limit that is so, of a hop that is not there", DocumentCalls::twoWays, x -> x.limit(0, 2, 300), BAD);
        Due.refuses("a kind that is so, of a hop that is not there", DocumentCalls::twoWays, x -> x.kind(1, 0, 0), BAD);
        Due.refuses("a loss that is so, of a way that is not there", DocumentCalls::twoWays, x -> x.loss(2, 0), BAD);
        Due.refuses("too many bytes for any probe", DocumentCalls::twoWays, x -> x.padding(1, 1000), BAD);
        Due.refuses("100 ticks behind the last", DocumentCalls::atTheLastTick, x -> x.tick(100), BAD);
        Due.refuses("one tick behind the last", DocumentCalls::atTheLastTick, x -> x.tick(1), NO);
        Due.refuses("padding of no way, where low is high", () -> Due.laid("way;base 200;top 200;"), x -> x.padding(1, 999), BAD);
        Due.refuses("padding of more bytes, where low is high", () -> Due.laid("way;base 200;top 200;"), x -> x.padding(0, 999), NONE);
        Due.refuses("soon by no belief, where there is none", () -> Due.laid("way;hop 197 old;base 20;top 200;"), x -> x.soon(0, 3), BAD);
        Due.refuses("best of no way, where there is none", () -> Due.laid("way;hop 30 silent;loss 99;"), x -> x.best(1), BAD);
        Due.refuses("a limit that is so", DocumentCalls::twoWays, x -> x.limit(0, 1, 400), NO);
        Due.refuses("a kind that is so", DocumentCalls::twoWays, x -> x.kind(0, 1, 2), NO);
        Due.refuses("a loss that is so", DocumentCalls::twoWays, x -> x.loss(1, 0), NO);
        Due.refuses("a belief that is so", DocumentCalls::twoWays, x -> x.believe(1), NO);
        Due.refuses("an undo too many", GreatProbes::new, GreatProbes::undo, NO);
        Due.refuses("a text with a fault", DocumentCalls::changedWithFault, GreatProbes::lay, NO);
    }

    private static GreatProbes atTheLastTick() {
        GreatProbes x = Due.laid("way;hop 90 tell;");
        for (int n = 0; n < 101; n++) {
            x.tick(99);
        }
        return x;
    }

    private static GreatProbes changedWithFault() {
        GreatProbes x = twoWays();
        x.loss(0, 4);
        Due.write(x, "way;top 300;age 100;");
        return x;
    }

    private static void textStays() {
        Due.next("THE TEXT stays when it is LAID.");
        GreatProbes x = Due.written("way;");
        for (int ways = 1; ways <= 4; ways++) {
            Due.is("lay", x.lay(), ways);
            Due.is("letters", x.count(11), 4 * ways);
            Due.is("lay again", x.lay(), ways);
            Due.write(x, "way;");
        }
        Due.is("five ways", x.lay(), NO);
        Due.is("letters", x.count(11), 20);
        Due.is("fault", x.fault(), 16);
    }

    private static void orderOfTheFace() {
        String[] words = {"told", "what is done", "ways", "ahead"};
        String[] calls = {"write wipe fault lay", "tick send limit kind loss believe undo", "way hop probe padding meets draw", "ahead soon best count"};
        String source = source();
        int at = 0;
        for (int n = 0; n < words.length; n++) {
            Due.next("Ahead of the calls `" + calls[n].replace(" ", "`, `") + "` the interface says: ---- " + words[n] + ".");
            int mark = source.indexOf("// ---- " + words[n] + "\n", at);
            Due.that("the mark stands in its place", mark >= at && mark > 0);
            at = Math.max(at, mark);
            for (String call : calls[n].split(" ")) {
                int next = source.indexOf("public int " + call + "(", at);
                Due.that(call + " stands in its place", next > at && source.substring(at + 8, next).indexOf("// ----") < 0);
                at = Math.max(at, next);
            }
        }
    }

    private static String source() {
        try {
            return Files.readString(Path.of("src/main/java/GreatProbes.java")).replace("\r", "");
        } catch (IOException e) {
            return "";
        }
    }
}
