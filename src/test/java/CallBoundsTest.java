import java.util.function.Supplier;
import java.util.function.ToIntFunction;

/** The sentences of promises 7 to 22 that name a bound: the last number taken, the first that is not, and what is refused. */
public final class CallBoundsTest {
    private static final int BAD = GreatProbes.BAD, NO = GreatProbes.NO, NONE = GreatProbes.NONE;
    private static final int[] FAR = {-1, -2, Integer.MIN_VALUE, Integer.MAX_VALUE, 65536, -65536};

    public static void main(String[] args) {
        sends();
        sentAtMost();
        limits();
        kinds();
        losses();
        beliefs();
        fourUndone();
        undoneWhat();
        refusedAreNoChanges();
        waysTold();
        hopsTold();
        probes();
        paddings();
        meetings();
        draws();
        aheads();
        aheadPastTheLastTick();
        soons();
        soonFromOneToMost();
        bests();
        counts();
        askingChangesNothing();
        badAheadOfNo();
        badAheadOfNone();
        badAheadOfFull();
        Due.end();
    }

    /** Three ways of 2, 2 and 1 hops, with a change of each kind behind them, and a text that has begun. */
    private static GreatProbes changed() {
        GreatProbes x = new GreatProbes();
        x.tick(9);
        x.limit(1, 1, 800);
        x.loss(0, 7);
        x.send(2, 999);
        x.kind(0, 0, 1);
        Due.write(x, "way;ho");
        return x;
    }

    private static void refuses(String call, ToIntFunction<GreatProbes> called, int want) {
        Due.refuses(call, CallBoundsTest::changed, called, want);
    }

    private static void sends() {
        Due.sentence("A LETTER of a SIZE is sent on a WAY (LOW, HIGH stay): 0 it ARRIVES, 1 it is LOST, 2 and T, together: T is told back (believed or not). BAD;");
        GreatProbes x = changed();
        Due.is("least size", x.send(0, 1), 0);
        Due.is("most", x.send(2, 999), 501);
        Due.is("the last way", x.send(2, 640), 0);
        for (int far : FAR) {
            refuses("send(" + far + ", 60)", y -> y.send(far, 60), BAD);
            refuses("send(0, " + far + ")", y -> y.send(0, far), BAD);
        }
        refuses("send(3, 60)", y -> y.send(3, 60), BAD);
        refuses("send(4, 60)", y -> y.send(4, 60), BAD);
        refuses("send(0, 0)", y -> y.send(0, 0), BAD);
        refuses("send(0, 1000)", y -> y.send(0, 1000), BAD);
        GreatProbes told = Due.laid("way;hop 60 silent;way;hop 60 tell;way;hop 60 tell;believe none;");
        told.tick(2);
        for (int n = 0; n < 4; n++) {
            told.send(0, 999);
            told.send(1, 61);
        }
        Due.way("lost ones leave the search", told, 0, 60, 900, 0, 2, 0, 0, 0, 8, 6, 0);
        Due.way("told ones, too", told, 1, 60, 900, 0, 2, 0, 0, 0, 8, 6, 0);
        Due.is("told, not believed", told.send(2, 61), 62);
        Due.is("no tick more", told.count(1), 2);
        GreatProbes one = Due.laid("way;");
        Due.is("the only way", one.send(0, 999), 0);
        Due.is("no second one", one.send(1, 999), BAD);
        GreatProbes four = Due.laid("way;way;way;way;");
        Due.is("the fourth", four.send(3, 999), 0);
        Due.is("no fifth one", four.send(4, 999), BAD);
    }

    /** 512 calls come nowhere near 99999 LETTERS: 9999 TICKS of two on each WAY, and the rest of the calls; so none is refused. */
    private static void sentAtMost() {
        Due.sentence("NO: 99999 were sent.");
        String text = "way;hop 60 silent;".repeat(4) + "age 1;";
        GreatProbes x = Due.laid(text);
        int calls = text.length() + 2;
        for (int n = 0; n < 101; n++) {
            x.tick(99);
            calls++;
        }
        int sent = x.count(8);
        calls++;
        Due.that("many were sent: " + sent, sent > 75000);
        for (; calls < 511; calls++) {
            sent++;
            Due.that("one more is sent", x.send(calls % 4, 1) >= 0);
        }
        Due.is("sent", x.count(8), sent);
        Due.that("fewer than 99999: " + sent, sent < 99999);
    }

    private static void limits() {
        Due.sentence("LIMIT of a HOP (20 to 999): what it was. BAD; NO: it is so.");
        GreatProbes x = changed();
        Due.is("least", x.limit(0, 0, 20), 700);
        Due.is("most", x.limit(0, 0, 999), 20);
        Due.is("told anew", x.hop(0, 0, 0), 999);
        Due.is("its kind stays", x.hop(0, 0, 1), 1);
        Due.is("its neighbour stays", x.hop(0, 1, 0), 333);
        Due.is("the last hop", x.limit(2, 0, 641), 640);
        Due.is("told for ways that are there", x.limit(2, 0, 640), 641);
        for (int far : FAR) {
            refuses("limit(" + far + ", 0, 60)", y -> y.limit(far, 0, 60), BAD);
            refuses("limit(0, " + far + ", 60)", y -> y.limit(0, far, 60), BAD);
            refuses("limit(0, 0, " + far + ")", y -> y.limit(0, 0, far), BAD);
        }
        refuses("limit(0, 0, 19)", y -> y.limit(0, 0, 19), BAD);
        refuses("limit(0, 0, 0)", y -> y.limit(0, 0, 0), BAD);
        refuses("limit(0, 0, 1000)", y -> y.limit(0, 0, 1000), BAD);
        refuses("limit(0, 2, 60)", y -> y.limit(0, 2, 60), BAD);
        refuses("limit(2, 1, 60)", y -> y.limit(2, 1, 60), BAD);
        refuses("limit(2, 1, 900)", y -> y.limit(2, 1, 900), BAD);
        refuses("limit(3, 0, 60)", y -> y.limit(3, 0, 60), BAD);
        refuses("limit(0, 0, 700)", y -> y.limit(0, 0, 700), NO);
        refuses("limit(1, 1, 800)", y -> y.limit(1, 1, 800), NO);
        refuses("limit(2, 0, 640)", y -> y.limit(2, 0, 640), NO);
        GreatProbes six = Due.laid("way;" + "hop 20 old;".repeat(6));
        Due.is("the sixth hop", six.limit(0, 5, 21), 20);
        Due.is("no seventh", six.limit(0, 6, 21), BAD);
        Due.is("without hops", Due.laid("way;").limit(0, 0, 21), BAD);
    }

    private static void kinds() {
        Due.sentence("KIND of a HOP (0 to 3): what it was. BAD; NO: it is so.");
        GreatProbes x = new GreatProbes();
        Due.is("most", x.kind(0, 0, 3), 0);
        Due.is("least", x.kind(0, 0, 0), 3);
        Due.is("told anew", x.hop(0, 0, 1), 0);
        Due.is("its limit stays", x.hop(0, 0, 0), 700);
        Due.is("its neighbour stays", x.hop(0, 1, 1), 3);
        Due.is("the last hop", x.kind(2, 0, 1), 2);
        for (int far : FAR) {
            refuses("kind(" + far + ", 0, 2)", y -> y.kind(far, 0, 2), BAD);
            refuses("kind(0, " + far + ", 2)", y -> y.kind(0, far, 2), BAD);
            refuses("kind(0, 0, " + far + ")", y -> y.kind(0, 0, far), BAD);
        }
        refuses("kind(0, 0, 4)", y -> y.kind(0, 0, 4), BAD);
        refuses("kind(0, 2, 2)", y -> y.kind(0, 2, 2), BAD);
        refuses("kind(2, 1, 0)", y -> y.kind(2, 1, 0), BAD);
        refuses("kind(3, 0, 2)", y -> y.kind(3, 0, 2), BAD);
        refuses("kind(0, 0, 1)", y -> y.kind(0, 0, 1), NO);
        refuses("kind(0, 1, 3)", y -> y.kind(0, 1, 3), NO);
        refuses("kind(1, 1, 0)", y -> y.kind(1, 1, 0), NO);
        refuses("kind(2, 0, 2)", y -> y.kind(2, 0, 2), NO);
        GreatProbes six = Due.laid("way;" + "hop 20 old;".repeat(6));
        Due.is("the sixth hop", six.kind(0, 5, 0), 2);
        Due.is("no seventh", six.kind(0, 6, 0), BAD);
        Due.is("without hops", Due.laid("way;").kind(0, 0, 1), BAD);
    }

    private static void losses() {
        Due.sentence("LOSS of a WAY (0 to 99): what it was. BAD; NO: it is so.");
        GreatProbes x = new GreatProbes();
        Due.is("most", x.loss(1, 99), 10);
        Due.is("least", x.loss(1, 0), 99);
        Due.is("the last way", x.loss(2, 1), 0);
        Due.is("told anew", x.way(2, 12), 1);
        Due.is("its neighbour stays", x.way(1, 12), 0);
        for (int far : FAR) {
            refuses("loss(" + far + ", 5)", y -> y.loss(far, 5), BAD);
            refuses("loss(0, " + far + ")", y -> y.loss(0, far), BAD);
        }
        refuses("loss(3, 5)", y -> y.loss(3, 5), BAD);
        refuses("loss(0, 100)", y -> y.loss(0, 100), BAD);
        refuses("loss(0, 7)", y -> y.loss(0, 7), NO);
        refuses("loss(1, 10)", y -> y.loss(1, 10), NO);
        refuses("loss(2, 0)", y -> y.loss(2, 0), NO);
    }

    private static void beliefs() {
        Due.sentence("What is believed: 0 all, 1 checked, 2 none: what it was. BAD; NO: it is so.");
        GreatProbes x = new GreatProbes();
        Due.is("most", x.believe(2), 1);
        Due.is("least", x.believe(0), 2);
        Due.is("between", x.believe(1), 0);
        Due.is("told anew", x.count(5), 1);
        for (int far : FAR) {
            refuses("believe(" + far + ")", y -> y.believe(far), BAD);
        }
        refuses("believe(3)", y -> y.believe(3), BAD);
        refuses("believe(1)", y -> y.believe(1), NO);
        for (int m = 0; m <= 2; m += 2) {
            int told = m;
            Supplier<GreatProbes> made = () -> {
                GreatProbes y = changed();
                y.believe(told);
                return y;
            };
            Due.refuses("believe(" + m + ")", made, y -> y.believe(told), NO);
        }
    }

    private static void fourUndone() {
        Due.sentence("UNDONE is the latest change (the last 4 can be; behind LAID none can be).");
        for (int changes = 0; changes <= 13; changes++) {
            GreatProbes x = new GreatProbes();
            for (int n = 1; n <= changes; n++) {
                x.loss(0, n);
            }
            int most = Math.min(4, changes);
            Due.is(changes + " changes", x.count(10), most);
            for (int n = 1; n <= most; n++) {
                Due.is("undo " + n + " of " + changes, x.undo(), most - n);
                Due.is("undone " + n + " of " + changes, x.way(0, 12), changes - n);
                Due.is("how many more", x.count(10), most - n);
            }
            Due.is("no more of " + changes, x.undo(), NO);
            Due.is("loss stays", x.way(0, 12), changes - most);
            Due.is("none more", x.count(10), 0);
        }
        Due.sentence("UNDONE: how many more can be. NO.");
        Due.refuses("undo of a new one", GreatProbes::new, GreatProbes::undo, NO);
        GreatProbes x = new GreatProbes();
        for (int n = 1; n <= 6; n++) {
            x.loss(0, n);
        }
        x.undo();
        x.undo();
        Due.is("two more", x.count(10), 2);
        x.loss(0, 50);
        x.loss(0, 51);
        Due.is("room for two behind two undone", x.count(10), 4);
        x.loss(0, 52);
        int[] due = {51, 50, 4, 3};
        for (int n = 0; n < 4; n++) {
            Due.is("undo", x.undo(), 3 - n);
            Due.is("loss", x.way(0, 12), due[n]);
        }
        Due.is("no more", x.undo(), NO);
    }

    private static void undoneWhat() {
        Due.sentence("A change: TICKS, a LETTER sent by send(), a LIMIT, a KIND, a LOSS, what is believed, told anew.");
        for (int which = 0; which < 6; which++) {
            GreatProbes x = new GreatProbes();
            GreatProbes same = new GreatProbes();
            x.tick(30);
            same.tick(30);
            change(x, which);
            Due.is("changes behind " + which, x.count(10), 2);
            Due.is("undo of " + which, x.undo(), 1);
            Due.same("undone " + which, x, same);
        }
        GreatProbes felt = Due.laid("way;hop 480 silent;");
        felt.tick(1);
        felt.limit(0, 0, 400);
        felt.tick(2);
        Due.way("two fails, two misses", felt, 0, 480, 900, 0, 2, 2, 0, 0, 6, 4);
        felt.tick(1);
        Due.way("fallen", felt, 0, 270, 479, 0, 0, 0, 0, 1, 8, 5);
        felt.undo();
        Due.way("two fails, two misses again", felt, 0, 480, 900, 0, 2, 2, 0, 0, 6, 4);
        GreatProbes many = new GreatProbes();
        many.tick(99);
        Due.is("99 ticks are one change", many.count(10), 1);
        Due.is("undo of them", many.undo(), 0);
        Due.same("undone", many, new GreatProbes());
        GreatProbes text = Due.written("way");
        text.tick(1);
        text.write(';');
        Due.is("letters of the text are no change", text.count(10), 1);
        text.undo();
        Due.is("nor are they undone", text.count(11), 4);
        text.wipe();
        Due.is("nor is the wiping", text.undo(), NO);
        Due.is("letters", text.count(11), 0);
    }

    private static void change(GreatProbes x, int which) {
        switch (which) {
            case 0: Due.that("tick", x.tick(1) >= 0); return;
            case 1: Due.that("send", x.send(1, 999) >= 0); return;
            case 2: Due.that("limit", x.limit(0, 1, 20) >= 0); return;
            case 3: Due.that("kind", x.kind(0, 1, 0) >= 0); return;
            case 4: Due.that("loss", x.loss(1, 99) >= 0); return;
            default: Due.that("believe", x.believe(2) >= 0);
        }
    }

    private static void refusedAreNoChanges() {
        Due.sentence("Of several the first in this order, whatever the order at a call; nothing changes then.");
        GreatProbes x = new GreatProbes();
        x.loss(0, 1);
        x.tick(0);
        x.send(0, 0);
        x.limit(0, 0, 700);
        x.kind(0, 0, 0);
        x.loss(0, 1);
        x.believe(1);
        x.lay();
        Due.is("one change", x.count(10), 1);
        Due.is("it is undone", x.undo(), 0);
        Due.is("loss", x.way(0, 12), 0);
    }

    private static void waysTold() {
        Due.sentence("LETTERS sent (7), LOST (8), believed told ones (9), PASSES (10), HOPS (11), LOSS (12). BAD.");
        GreatProbes x = changed();
        Due.is("the last way", x.way(2, 11), 1);
        Due.is("the last number", x.way(0, 12), 7);
        for (int far : FAR) {
            Due.is("way(" + far + ", 0)", x.way(far, 0), BAD);
            Due.is("way(0, " + far + ")", x.way(0, far), BAD);
        }
        Due.is("way(3, 0)", x.way(3, 0), BAD);
        Due.is("way(0, 13)", x.way(0, 13), BAD);
        Due.is("way(3, 13)", x.way(3, 13), BAD);
        GreatProbes four = Due.laid("way;way;way;way;loss 9;");
        Due.is("the fourth", four.way(3, 12), 9);
        Due.is("no fifth", four.way(4, 12), BAD);
        four.wipe();
        Due.write(four, "way;");
        four.lay();
        Due.is("the only one", four.way(0, 12), 0);
        Due.is("no second one any more", four.way(1, 12), BAD);
    }

    private static void hopsTold() {
        Due.sentence("Of a HOP: LIMIT (what = 0), KIND (1). BAD.");
        GreatProbes x = changed();
        Due.is("hop(1, 1, 0)", x.hop(1, 1, 0), 800);
        Due.is("hop(0, 1, 1)", x.hop(0, 1, 1), 3);
        for (int far : FAR) {
            Due.is("hop(" + far + ", 0, 0)", x.hop(far, 0, 0), BAD);
            Due.is("hop(0, " + far + ", 0)", x.hop(0, far, 0), BAD);
            Due.is("hop(0, 0, " + far + ")", x.hop(0, 0, far), BAD);
        }
        Due.is("hop(3, 0, 0)", x.hop(3, 0, 0), BAD);
        Due.is("hop(0, 2, 0)", x.hop(0, 2, 0), BAD);
        Due.is("hop(2, 1, 0)", x.hop(2, 1, 0), BAD);
        Due.is("hop(0, 0, 2)", x.hop(0, 0, 2), BAD);
        GreatProbes six = Due.laid("way;" + "hop 20 old;".repeat(6) + "way;");
        Due.is("the sixth", six.hop(0, 5, 1), 2);
        Due.is("no seventh", six.hop(0, 6, 1), BAD);
        Due.is("without hops", six.hop(1, 0, 0), BAD);
    }

    private static void probes() {
        Due.sentence("SIZE that a PROBE of a WAY has now. BAD; NONE: LOW is HIGH.");
        GreatProbes x = Due.laid("way;base 200;top 201;way;");
        Due.is("the last size", x.probe(0), 201);
        Due.is("the last way", x.probe(1), 201);
        Due.is("no way", x.probe(2), BAD);
        for (int far : FAR) {
            Due.is("probe(" + far + ")", x.probe(far), BAD);
        }
        x.tick(1);
        Due.is("low is high", x.probe(0), NONE);
        Due.is("no way", x.probe(2), BAD);
    }

    private static void paddings() {
        Due.sentence("PADDING that a PROBE of a WAY needs now for c bytes (0 to 999): its SIZE less c. BAD; NO: there are more bytes than that;");
        GreatProbes x = Due.laid("way;base 200;top 201;");
        Due.is("no bytes", x.padding(0, 0), 201);
        Due.is("one short", x.padding(0, 200), 1);
        Due.is("all bytes", x.padding(0, 201), 0);
        Due.is("one too many", x.padding(0, 202), NO);
        Due.is("most", x.padding(0, 999), NO);
        Due.is("beyond", x.padding(0, 1000), BAD);
        Due.is("no way", x.padding(1, 0), BAD);
        for (int far : FAR) {
            Due.is("padding(" + far + ", 0)", x.padding(far, 0), BAD);
            Due.is("padding(0, " + far + ")", x.padding(0, far), BAD);
        }
        Due.sentence("NONE: LOW is HIGH (there is no SIZE then, so never NO).");
        x.tick(1);
        Due.is("no bytes", x.padding(0, 0), NONE);
        Due.is("all bytes", x.padding(0, 201), NONE);
        Due.is("more", x.padding(0, 202), NONE);
        Due.is("most", x.padding(0, 999), NONE);
        Due.is("beyond", x.padding(0, 1000), BAD);
        Due.is("less", x.padding(0, -1), BAD);
        GreatProbes wide = Due.laid("way;top 999;");
        wide.tick(9);
        Due.is("the greatest probe", wide.probe(0), 999);
        Due.is("all 999 bytes", wide.padding(0, 999), 0);
        Due.is("998 bytes", wide.padding(0, 998), 1);
    }

    private static void meetings() {
        Due.sentence("What a LETTER of a SIZE (1 to 999) would meet, were it not LOST by LOSS: as by send() (what = 0), the HOP that drops it (1; NONE). BAD.");
        GreatProbes x = Due.laid("way;hop 500 silent;hop 20 wrong;loss 99;way;loss 99;way;" + "hop 999 old;".repeat(5) + "hop 998 tell;loss 99;");
        int[][] due = {{0, 1, 0, NONE}, {0, 20, 0, NONE}, {0, 21, 2, 1}, {0, 500, 2, 1}, {0, 501, 1, 0}, {0, 999, 1, 0},
            {1, 1, 0, NONE}, {1, 999, 0, NONE}, {2, 998, 0, NONE}, {2, 999, 1000, 5}};
        for (int[] row : due) {
            String call = "meets(" + row[0] + ", " + row[1];
            Due.is(call + ", 0)", x.meets(row[0], row[1], 0), row[2]);
            Due.is(call + ", 1)", x.meets(row[0], row[1], 1), row[3]);
        }
        for (int far : FAR) {
            Due.is("meets(" + far + ", 60, 0)", x.meets(far, 60, 0), BAD);
            Due.is("meets(0, " + far + ", 0)", x.meets(0, far, 0), BAD);
            Due.is("meets(0, 60, " + far + ")", x.meets(0, 60, far), BAD);
        }
        for (int what = 0; what <= 1; what++) {
            Due.is("size 0", x.meets(0, 0, what), BAD);
            Due.is("size 1000", x.meets(0, 1000, what), BAD);
            Due.is("no way", x.meets(3, 60, what), BAD);
        }
        Due.is("what 2", x.meets(0, 60, 2), BAD);
        Due.is("nothing was sent", x.count(8), 0);
    }

    private static void draws() {
        Due.sentence("DRAW k (0 to 9999) of a WAY. BAD.");
        GreatProbes most = Due.laid("way;way;way;way;draws 9999;");
        Due.is("the greatest x", most.draw(3, 9999), 39197);
        Due.is("its first", most.draw(3, 0), 39292);
        Due.is("the first way's first", most.draw(0, 0), 51303);
        GreatProbes least = Due.laid("way;way;way;way;");
        Due.is("the least x", least.draw(0, 0), 1);
        Due.is("the last k", least.draw(0, 9999), 35209);
        Due.is("the last way", least.draw(3, 0), 37479);
        Due.is("a square of nearly 2 to the 31st", least.draw(0, 12), 22542);
        Due.is("a square beyond it", least.draw(0, 13), 5523);
        Due.is("a square of nearly 2 to the 32nd", least.draw(0, 18), 35581);
        Due.is("a square beyond it", least.draw(0, 19), 51519);
        Due.is("no rest", least.draw(2, 3868), 0);
        Due.is("the greatest rest of all", Due.laid("way;way;draws 2;").draw(1, 441), 65520);
        Due.is("no fifth way", least.draw(4, 0), BAD);
        Due.is("k 10000", least.draw(0, 10000), BAD);
        Due.is("k -1", least.draw(0, -1), BAD);
        Due.is("no second way", Due.laid("way;").draw(1, 0), BAD);
        for (int far : FAR) {
            Due.is("draw(" + far + ", 0)", least.draw(far, 0), BAD);
            Due.is("draw(0, " + far + ")", least.draw(0, far), BAD);
        }
    }

    private static void aheads() {
        Due.sentence("AHEAD n TICKS (1 to 99): as they would go by (nothing changes by it).");
        GreatProbes x = Due.laid("way;hop 200 tell;base 200;top 203;age 98;way;hop 20 silent;");
        Due.is("low, 1 ahead", x.ahead(1, 0, 0), 200);
        Due.is("high, 1 ahead", x.ahead(1, 0, 1), 200);
        Due.is("state, 1 ahead", x.ahead(1, 0, 2), 1);
        Due.is("high, 98 ahead", x.ahead(98, 0, 1), 200);
        Due.is("high, 99 ahead", x.ahead(99, 0, 1), 203);
        Due.is("state, 99 ahead", x.ahead(99, 0, 2), 0);
        Due.is("lost, 1 ahead, of the last way", x.ahead(1, 1, 4), 2);
        Due.is("lost, of the first way", x.ahead(1, 0, 4), 0);
        Due.is("0 ticks", x.ahead(0, 0, 0), BAD);
        Due.is("100 ticks", x.ahead(100, 0, 0), BAD);
        Due.is("no way", x.ahead(1, 2, 0), BAD);
        Due.is("what 5", x.ahead(1, 0, 5), BAD);
        for (int far : FAR) {
            Due.is("ahead(" + far + ", 0, 0)", x.ahead(far, 0, 0), BAD);
            Due.is("ahead(1, " + far + ", 0)", x.ahead(1, far, 0), BAD);
            Due.is("ahead(1, 0, " + far + ")", x.ahead(1, 0, far), BAD);
        }
        Due.sentence("FALLEN in them (3), LETTERS LOST in them (4). BAD.");
        GreatProbes fallen = Due.laid("way;hop 999 silent;base 200;top 202;");
        fallen.tick(2);
        fallen.limit(0, 0, 199);
        int[][] due = {{1, 0, 1}, {2, 0, 2}, {3, 1, 4}, {4, 1, 6}};
        for (int[] row : due) {
            Due.is("fallen in " + row[0], fallen.ahead(row[0], 0, 3), row[1]);
            Due.is("lost in " + row[0], fallen.ahead(row[0], 0, 4), row[2]);
        }
        fallen.tick(3);
        Due.is("fallen ahead of them does not count", fallen.ahead(1, 0, 3), 0);
        Due.is("lost ahead of them does not count", fallen.ahead(1, 0, 4), 2);
    }

    /** Promise 6 alone refuses TICKS beyond 9999; promises 19 to 21 name no such bound. */
    private static void aheadPastTheLastTick() {
        Due.sentence("AHEAD n TICKS: of a WAY LOW (what = 0), HIGH (1), STATE (2)");
        GreatProbes x = Due.laid("way;hop 200 tell;base 200;top 203;");
        for (int n = 0; n < 101; n++) {
            x.tick(99);
        }
        Due.is("no tick more", x.tick(1), NO);
        Due.is("but one ahead", x.ahead(1, 0, 0), 200);
        Due.is("and 99", x.ahead(99, 0, 0), 200);
        Due.is("and soon", x.soon(0, 1), 1);
        Due.is("and best", x.best(0), 0);
    }

    private static void soons() {
        Due.sentence("SOON of a WAY, were m believed (0 all, 1 checked, 2 none) from now on. BAD; NONE.");
        GreatProbes x = Due.laid("way;hop 200 tell;base 200;top 203;way;hop 240 wrong;way;hop 203 silent;");
        for (int m = 0; m <= 2; m++) {
            Due.is("at base, by " + m, x.soon(0, m), 1);
            Due.is("at top, by " + m, x.soon(2, m), 2);
        }
        Due.is("m 3", x.soon(0, 3), BAD);
        Due.is("no way", x.soon(3, 0), BAD);
        for (int far : FAR) {
            Due.is("soon(" + far + ", 0)", x.soon(far, 0), BAD);
            Due.is("soon(0, " + far + ")", x.soon(0, far), BAD);
        }
        GreatProbes never = Due.laid("way;hop 700 wrong;");
        Due.is("all, told falsely", never.soon(0, 0), NONE);
        Due.is("checked, told falsely", never.soon(0, 1), NONE);
        Due.that("none", never.soon(0, 2) > 0);
        Due.is("m 3, though there is none", never.soon(0, 3), BAD);
        Due.sentence("LOW is PASSES (or TOP, if that is less; BASE, if PASSES is less than BASE) first; none.");
        int[][] limitAndTicks = {{20, 1}, {199, 1}, {200, 1}, {203, 2}, {204, 2}, {999, 2}};
        for (int[] row : limitAndTicks) {
            GreatProbes one = Due.laid("way;hop " + row[0] + " silent;base 200;top 203;");
            Due.is("soon with limit " + row[0], one.soon(0, 1), row[1]);
        }
        Due.is("soon with limit 201", Due.laid("way;hop 201 silent;base 200;top 203;").soon(0, 1), 4);
        Due.is("soon with limit 202", Due.laid("way;hop 202 silent;base 200;top 203;").soon(0, 1), 1);
        Due.is("soon without hops", Due.laid("way;base 200;top 203;").soon(0, 1), 2);
        Due.is("soon, base is top", Due.laid("way;base 200;top 200;").soon(0, 1), 1);
        Due.is("soon, base is top, less passes", Due.laid("way;hop 20 silent;base 200;top 200;").soon(0, 1), 1);
    }

    /** LOW is where it should be ahead of the first TICK: that is not asked. And just at the 99th, or one behind it. */
    private static void soonFromOneToMost() {
        Due.sentence("SOON: behind how many TICKS (1 to 99)");
        Due.is("it is so already", Due.laid("way;hop 60 silent;").soon(0, 0), 1);
        GreatProbes left = Due.laid("way;hop 61 tell;base 60;");
        left.tick(12);
        Due.is("low", left.way(0, 0), 61);
        Due.is("it is so already", left.soon(0, 1), 1);
        Due.is("at the 98th", Due.laid("way;hop 100 silent;loss 30;draws 206;").soon(0, 0), 98);
        Due.is("at the 99th", Due.laid("way;hop 100 silent;loss 25;draws 48;").soon(0, 0), 99);
        GreatProbes beyond = Due.laid("way;hop 100 silent;loss 30;draws 14;");
        Due.is("at the 100th", beyond.soon(0, 0), NONE);
        beyond.tick(1);
        Due.is("one tick on it is the 99th", beyond.soon(0, 0), 99);
    }

    private static void bests() {
        Due.sentence("The belief by which SOON of a WAY is least, of several the lowest. BAD; NONE.");
        GreatProbes x = Due.laid("way;hop 700 tell;way;hop 700 wrong;way;hop 300 tell;loss 99;way;hop 90 wrong;");
        Due.is("all and checked are as soon, none later", x.best(0), 0);
        Due.is("none alone", x.best(1), 2);
        Due.is("none of them", x.best(2), NONE);
        Due.is("checked and none are as soon, all never", x.best(3), 1);
        Due.is("no way", x.best(4), BAD);
        for (int far : FAR) {
            Due.is("best(" + far + ")", x.best(far), BAD);
        }
        Due.is("all three are as soon", Due.laid("way;hop 700 silent;").best(0), 0);
        Due.is("at the 99th", Due.laid("way;hop 100 silent;loss 25;draws 48;").best(0), 0);
        Due.is("at the 100th", Due.laid("way;hop 100 silent;loss 30;draws 14;").best(0), NONE);
    }

    private static void counts() {
        Due.sentence("10 changes that can be UNDONE, 11 letters of THE TEXT. BAD.");
        GreatProbes x = changed();
        Due.is("ways", x.count(0), 3);
        Due.is("changes", x.count(10), 4);
        Due.is("letters", x.count(11), 6);
        Due.is("count(12)", x.count(12), BAD);
        for (int far : FAR) {
            Due.is("count(" + far + ")", x.count(far), BAD);
        }
        Due.sentence("6 the least LOW of all WAYS, 7 WAYS that are DONE, 8 LETTERS sent, 9 LOST");
        GreatProbes all = Due.laid("way;way;way;way;base 200;top 200;");
        Due.is("all are done", all.count(7), 4);
        Due.is("least low", all.count(6), 200);
        Due.is("sent", all.count(8), 0);
        all.tick(1);
        Due.is("one each", all.count(8), 4);
        GreatProbes first = Due.laid("way;hop 200 tell;way;base 200;top 203;");
        first.tick(1);
        Due.is("the first alone is done", first.count(7), 1);
        GreatProbes last = Due.laid("way;way;hop 200 tell;base 200;top 203;");
        last.tick(1);
        Due.is("the last alone is done", last.count(7), 1);
        GreatProbes none = Due.laid("way;way;way;way;top 999;");
        Due.is("none is done", none.count(7), 0);
        none.tick(99);
        Due.is("low of all at top", none.count(6), 999);
        none.loss(3, 99);
        none.tick(9);
        Due.is("the last one fell", none.count(6), none.way(3, 0));
        Due.that("below the others", none.count(6) < none.way(0, 0));
    }

    private static void askingChangesNothing() {
        Due.sentence("(nothing changes by it)");
        refuses("the asking of all calls", x -> {
            x.fault();
            for (int i = -1; i <= 3; i++) {
                x.probe(i);
                x.padding(i, 300);
                x.meets(i, 999, 0);
                x.meets(i, 999, 1);
                x.draw(i, 9999);
                x.ahead(99, i, 3);
                x.soon(i, 0);
                x.best(i);
            }
            return x.count(12);
        }, BAD);
    }

    private static GreatProbes atTheLastTick() {
        GreatProbes x = Due.laid("way;hop 500 silent;");
        for (int n = 0; n < 101; n++) {
            x.tick(99);
        }
        return x;
    }

    private static void badAheadOfNo() {
        Due.sentence("BAD: a number is none that is told (WAYS, HOPS such as there are). NO: not as things stand.");
        for (int n : new int[] {0, 100, -1, Integer.MAX_VALUE, Integer.MIN_VALUE}) {
            Due.refuses("tick(" + n + ") at the last tick", CallBoundsTest::atTheLastTick, x -> x.tick(n), BAD);
        }
        GreatProbes x = Due.laid("way;base 200;top 201;");
        Due.is("more bytes than there can be", x.padding(0, 1000), BAD);
        Due.is("more bytes than the probe has, on no way", x.padding(1, 202), BAD);
        refuses("a limit that is so, of no hop", y -> y.limit(2, 1, 640), BAD);
        refuses("a limit that is so, of no way", y -> y.limit(3, 0, 640), BAD);
        refuses("a kind that is so, of no hop", y -> y.kind(2, 1, 2), BAD);
        refuses("a kind that is so, of no way", y -> y.kind(3, 0, 2), BAD);
        refuses("a loss that is so, of no way", y -> y.loss(3, 0), BAD);
        Due.is("nothing of no hop", Due.laid("way;").limit(0, 0, 0), BAD);
        Due.is("tell of no hop", Due.laid("way;").kind(0, 0, 0), BAD);
    }

    private static void badAheadOfNone() {
        Due.sentence("NONE: there is none. FULL. Of several the first in this order, whatever the order at a call;");
        GreatProbes done = Due.laid("way;base 200;top 200;");
        Due.is("probe of no way", done.probe(1), BAD);
        Due.is("padding on no way", done.padding(1, 0), BAD);
        Due.is("padding for too many bytes", done.padding(0, 1000), BAD);
        Due.is("padding for too few", done.padding(0, -1), BAD);
        Due.is("no hop drops it, size 0", done.meets(0, 0, 1), BAD);
        Due.is("no hop drops it, size 1000", done.meets(0, 1000, 1), BAD);
        Due.is("no hop drops it, what 2", done.meets(0, 1, 2), BAD);
        Due.is("no hop drops it, on no way", done.meets(1, 1, 1), BAD);
        GreatProbes never = Due.laid("way;hop 300 tell;loss 99;");
        Due.is("never, by 3", never.soon(0, 3), BAD);
        Due.is("never, by -1", never.soon(0, -1), BAD);
        Due.is("never, on no way", never.soon(1, 0), BAD);
        Due.is("never, on no way", never.best(1), BAD);
        Due.is("never, by all", never.soon(0, 0), NONE);
        Due.is("never", never.best(0), NONE);
    }

    private static void badAheadOfFull() {
        Due.sentence("BAD; FULL: it has 240.");
        for (int letter : new int[] {31, 127, -1, Integer.MAX_VALUE, Integer.MIN_VALUE}) {
            Due.refuses("write(" + letter + ") beyond", () -> Due.written("a".repeat(240)), x -> x.write(letter), BAD);
        }
    }
}
