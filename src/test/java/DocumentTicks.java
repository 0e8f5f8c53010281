/** The terms of a TICK, sentence by sentence: a part of DocumentTest. */
final class DocumentTicks {
    private static final int TELL = 0, WRONG = 1, SILENT = 3;

    private DocumentTicks() {
    }

    static void walk() {
        letterOfLow();
        lowArrives();
        lowToldBack();
        lowLost();
        failsAnew();
        probeOrNot();
        probeArrives();
        probeToldBack();
        probeLost();
        ages();
        theEnd();
        passes();
        Due.passOver("```");
    }

    private static GreatProbes from196(String hop) {
        return Due.laid("way;" + hop + "base 196;top 200;");
    }

    /** DONE at 200 behind three TICKS (198, 199, 200) of two LETTERS each; then the one HOP is told anew. */
    private static GreatProbes doneAt200(int limit, int kind) {
        GreatProbes x = from196("hop 999 silent;");
        x.tick(3);
        Due.way("done", x, 0, 200, 200, 1, 0, 0, 0, 0, 6, 0, 0);
        x.limit(0, 0, limit);
        x.kind(0, 0, kind);
        return x;
    }

    private static void letterOfLow() {
        Due.next("A TICK, WAY by WAY: a LETTER of SIZE LOW is sent.");
        GreatProbes x = Due.laid("way;hop 199 silent;way;hop 200 silent;way;hop 199 silent;way;base 200;top 200;");
        Due.is("lost of all ways", x.tick(1), 2);
        for (int i = 0; i < 4; i++) {
            Due.is("sent on way " + i, x.way(i, 7), 1);
            Due.is("lost on way " + i, x.way(i, 8), i == 0 || i == 2 ? 1 : 0);
        }
        Due.is("low passes", doneAt200(200, SILENT).tick(1), 0);
        Due.is("low does not", doneAt200(199, SILENT).tick(1), 1);
        Due.is("it is high that would not", from196("hop 199 silent;").tick(1), 0);
    }

    private static void lowArrives() {
        Due.next("It ARRIVES: MISSES are 0.");
        GreatProbes x = doneAt200(199, SILENT);
        x.tick(2);
        Due.is("two misses", x.way(0, 4), 2);
        x.limit(0, 0, 200);
        x.tick(1);
        Due.way("none", x, 0, 200, 200, 1, 0, 0, 3, 0, 9, 2, 0);
        x.limit(0, 0, 199);
        x.tick(2);
        Due.way("two again", x, 0, 200, 200, 1, 0, 2, 5, 0, 11, 4, 0);
    }

    private static void lowToldBack() {
        Due.next("T is believed: MISSES are 0, LOW becomes T, if T is less, but BASE at least; HIGH becomes T, if T is less, but LOW at least.");
        GreatProbes x = doneAt200(199, SILENT);
        x.tick(2);
        x.kind(0, 0, TELL);
        x.tick(1);
        Due.way("199 is told behind two misses", x, 0, 199, 199, 1, 0, 0, 3, 0, 9, 2, 1);
        GreatProbes base = doneAt200(196, TELL);
        base.tick(1);
        Due.way("base is told", base, 0, 196, 196, 1, 0, 0, 1, 0, 7, 0, 1);
        GreatProbes less = doneAt200(195, TELL);
        less.believe(0);
        less.tick(1);
        Due.way("less than base is told", less, 0, 196, 196, 1, 0, 0, 1, 0, 7, 0, 1);
        GreatProbes wrong = doneAt200(199, WRONG);
        wrong.believe(0);
        wrong.tick(1);
        Due.way("159 is told", wrong, 0, 196, 196, 1, 0, 0, 1, 0, 7, 0, 1);
        GreatProbes nothing = doneAt200(20, WRONG);
        nothing.believe(0);
        nothing.tick(1);
        Due.way("0 is told", nothing, 0, 196, 196, 1, 0, 0, 1, 0, 7, 0, 1);
        GreatProbes searching = from196("hop 999 tell;");
        searching.tick(1);
        Due.way("searching", searching, 0, 198, 200, 0, 0, 0, 0, 0, 2, 0, 0);
        searching.limit(0, 0, 197);
        searching.tick(1);
        Due.way("197 is told for 198: high is above it", searching, 0, 197, 197, 1, 0, 0, 0, 0, 3, 0, 1);
        GreatProbes first = from196("hop 195 tell;believe all;");
        first.tick(1);
        Due.way("195 is told for 196: high is low at least", first, 0, 196, 196, 1, 0, 0, 0, 0, 1, 0, 1);
    }

    private static void lowLost() {
        Due.next("It is LOST: MISSES are 1 more; are they 3, MISSES are 0, and if LOW is above BASE, it has FALLEN once more: HIGH becomes LOW less 1,"
            + " LOW becomes BASE.");
        GreatProbes x = doneAt200(199, SILENT);
        x.tick(1);
        Due.way("one miss", x, 0, 200, 200, 1, 0, 1, 1, 0, 7, 1, 0);
        x.tick(1);
        Due.way("two misses", x, 0, 200, 200, 1, 0, 2, 2, 0, 8, 2, 0);
        x.tick(1);
        Due.way("fallen to 196 and 199, then 198 arrives", x, 0, 198, 199, 0, 0, 0, 0, 1, 10, 3, 0);
        GreatProbes unbelieved = doneAt200(199, TELL);
        unbelieved.believe(2);
        unbelieved.tick(3);
        Due.way("told back, not believed", unbelieved, 0, 198, 199, 0, 0, 0, 0, 1, 10, 3, 0);
        GreatProbes base = Due.laid("way;hop 199 silent;base 200;top 200;");
        base.tick(2);
        Due.way("two misses at base", base, 0, 200, 200, 1, 0, 2, 2, 0, 2, 2, 0);
        base.tick(1);
        Due.way("nothing falls at base", base, 0, 200, 200, 1, 0, 0, 3, 0, 3, 3, 0);
        GreatProbes again = doneAt200(199, SILENT);
        again.tick(4);
        Due.way("199 arrives", again, 0, 199, 199, 1, 0, 0, 0, 1, 12, 3, 0);
        again.limit(0, 0, 196);
        again.tick(3);
        Due.way("fallen twice, 197 is lost", again, 0, 196, 198, 0, 1, 0, 0, 2, 16, 7, 0);
    }

    private static void failsAnew() {
        Due.next("FAILS are 0, when LOW or HIGH became another one.");
        GreatProbes high = from196("hop 197 silent;believe all;");
        high.tick(2);
        Due.way("198 fails twice", high, 0, 196, 200, 0, 2, 0, 0, 0, 4, 2, 0);
        high.limit(0, 0, 195);
        high.kind(0, 0, TELL);
        high.tick(1);
        Due.way("high became 196", high, 0, 196, 196, 1, 0, 0, 0, 0, 5, 2, 1);
        GreatProbes low = from196("hop 198 silent;");
        low.tick(1);
        low.limit(0, 0, 197);
        low.tick(2);
        Due.way("198 missed, 199 failed twice", low, 0, 198, 200, 0, 2, 2, 0, 0, 6, 4, 0);
        low.limit(0, 0, 196);
        low.tick(1);
        Due.way("low became 196: 197 is the first to fail", low, 0, 196, 197, 0, 1, 0, 0, 1, 8, 6, 0);
    }

    private static void probeOrNot() {
        Due.next("Then, if LOW is below HIGH and STATE was 0 as the TICK began, or LOW or HIGH became another one in it: a PROBE is sent, a LETTER of SIZE LOW and"
            + " (HIGH less LOW and 1) by 2, cut, together.");
        int[] sizes = {198, 199, 199, 200, 200, 201, 201};
        for (int n = 0; n < sizes.length; n++) {
            GreatProbes x = Due.laid("way;base 196;top " + (200 + n) + ";");
            x.tick(1);
            Due.way("196 to " + (200 + n), x, 0, sizes[n], 200 + n, 0, 0, 0, 0, 0, 2, 0, 0);
            GreatProbes below = Due.laid("way;hop " + (sizes[n] - 1) + " silent;base 196;top " + (200 + n) + ";");
            Due.is("of just that size", below.tick(1), 1);
        }
        GreatProbes done = doneAt200(200, SILENT);
        done.tick(1);
        Due.way("done: no probe", done, 0, 200, 200, 1, 0, 0, 1, 0, 7, 0, 0);
        GreatProbes fallen = doneAt200(199, SILENT);
        fallen.tick(3);
        Due.is("done, but fallen: a probe", fallen.way(0, 7), 10);
        GreatProbes narrowed = doneAt200(198, TELL);
        narrowed.tick(1);
        Due.way("done, told less, low is high: no size for a probe", narrowed, 0, 198, 198, 1, 0, 0, 1, 0, 7, 0, 1);
    }

    private static void probeArrives() {
        Due.next("It ARRIVES: LOW becomes that SIZE, FAILS are 0.");
        GreatProbes x = from196("hop 197 silent;");
        x.tick(2);
        Due.way("198 fails twice", x, 0, 196, 200, 0, 2, 0, 0, 0, 4, 2, 0);
        x.limit(0, 0, 198);
        x.tick(1);
        Due.way("198 arrives", x, 0, 198, 200, 0, 0, 0, 0, 0, 6, 2, 0);
        x.tick(2);
        Due.way("199 fails twice", x, 0, 198, 200, 0, 2, 0, 0, 0, 10, 4, 0);
    }

    private static void probeToldBack() {
        Due.next("T is believed: HIGH becomes T, if T is less, but LOW at least; FAILS are 0.");
        GreatProbes x = from196("hop 197 silent;");
        x.tick(2);
        x.kind(0, 0, TELL);
        x.tick(1);
        Due.way("197 is told behind two fails", x, 0, 196, 197, 0, 0, 0, 0, 0, 6, 2, 1);
        GreatProbes low = from196("hop 196 tell;");
        low.tick(1);
        Due.way("196 is told", low, 0, 196, 196, 1, 0, 0, 0, 0, 2, 0, 1);
        GreatProbes less = from196("hop 197 wrong;believe all;");
        less.tick(1);
        Due.way("157 is told", less, 0, 196, 196, 1, 0, 0, 0, 0, 2, 0, 1);
        GreatProbes nothing = Due.laid("way;hop 30 wrong;base 20;top 200;believe all;");
        nothing.tick(1);
        Due.way("0 is told", nothing, 0, 20, 20, 1, 0, 0, 0, 0, 2, 0, 1);
        GreatProbes unchecked = from196("hop 197 wrong;");
        unchecked.tick(1);
        Due.way("157 is lost", unchecked, 0, 196, 200, 0, 1, 0, 0, 0, 2, 1, 0);
    }

    private static void probeLost() {
        Due.next("It is LOST: FAILS are 1 more; are they 3, HIGH becomes that SIZE less 1, FAILS are 0.");
        GreatProbes x = from196("hop 196 silent;");
        int[][] due = {{200, 0, 1}, {200, 0, 2}, {197, 0, 0}, {197, 0, 1}, {197, 0, 2}, {196, 1, 0}};
        for (int n = 0; n < due.length; n++) {
            Due.is("tick " + n, x.tick(1), 1);
            Due.way("tick " + n, x, 0, 196, due[n][0], due[n][1], due[n][2], 0, 0, 0, 2 * n + 2, n + 1, 0);
        }
        GreatProbes unbelieved = from196("hop 196 tell;believe none;");
        unbelieved.tick(3);
        Due.way("told back, not believed", unbelieved, 0, 196, 197, 0, 0, 0, 0, 0, 6, 3, 0);
    }

    private static void ages() {
        Due.next("Else, if STATE was 1 as the TICK began: AGED is 1 more; is it AGE, AGED is 0, and HIGH becomes TOP.");
        GreatProbes x = from196("hop 197 tell;age 3;");
        x.tick(2);
        Due.way("done behind two ticks: not older", x, 0, 197, 197, 1, 0, 0, 0, 0, 4, 0, 1);
        x.tick(1);
        Due.way("aged 1", x, 0, 197, 197, 1, 0, 0, 1, 0, 5, 0, 1);
        x.tick(1);
        Due.way("aged 2", x, 0, 197, 197, 1, 0, 0, 2, 0, 6, 0, 1);
        x.tick(1);
        Due.way("of age", x, 0, 197, 200, 0, 0, 0, 0, 0, 7, 0, 1);
        x.tick(1);
        Due.way("199 is felt for, 197 is told", x, 0, 197, 197, 1, 0, 0, 0, 0, 9, 0, 2);
        GreatProbes narrowed = from196("hop 195 tell;believe all;age 1;");
        narrowed.tick(1);
        Due.way("it was searching: not older", narrowed, 0, 196, 196, 1, 0, 0, 0, 0, 1, 0, 1);
        narrowed.tick(1);
        Due.way("it was done", narrowed, 0, 196, 200, 0, 0, 0, 0, 0, 2, 0, 2);
        GreatProbes told = doneAt200(199, TELL);
        told.tick(1);
        Due.way("done and told less, no probe: older", told, 0, 199, 199, 1, 0, 0, 1, 0, 7, 0, 1);
        GreatProbes fallen = Due.laid("way;hop 999 silent;base 198;top 200;");
        fallen.tick(2);
        fallen.limit(0, 0, 199);
        fallen.tick(3);
        Due.way("done and fallen, a probe was sent: not older", fallen, 0, 199, 199, 1, 0, 0, 2, 1, 8, 3, 0);
        GreatProbes top = from196("age 2;");
        top.tick(4);
        Due.way("at top: aged 1", top, 0, 200, 200, 1, 0, 0, 1, 0, 7, 0, 0);
        top.tick(1);
        Due.way("at top: of age", top, 0, 200, 200, 1, 0, 0, 0, 0, 8, 0, 0);
    }

    private static void theEnd() {
        Due.next("In the end STATE is 1, if LOW is HIGH, else 0; AGED is 0, if STATE is 0.");
        GreatProbes x = from196("");
        int[][] due = {{198, 0, 0}, {199, 0, 0}, {200, 1, 0}, {200, 1, 1}};
        for (int n = 0; n < due.length; n++) {
            x.tick(1);
            Due.way("tick " + n, x, 0, due[n][0], 200, due[n][1], 0, 0, due[n][2]);
        }
        GreatProbes fallen = doneAt200(199, SILENT);
        fallen.tick(2);
        Due.way("aged 2", fallen, 0, 200, 200, 1, 0, 2, 2);
        fallen.tick(1);
        Due.way("searching: aged 0", fallen, 0, 198, 199, 0, 0, 0, 0);
        GreatProbes found = Due.laid("way;hop 999 silent;base 198;top 200;");
        found.tick(2);
        found.limit(0, 0, 199);
        found.tick(3);
        Due.way("fallen, and done in the same tick: aged stays", found, 0, 199, 199, 1, 0, 0, 2, 1, 8, 3, 0);
    }

    private static void passes() {
        Due.next("PASSES of a WAY: the least LIMIT of its HOPS, 999 at most (999 without HOPS).");
        GreatProbes x = Due.laid("way;hop 640 old;hop 320 tell;hop 480 silent;way;way;hop 999 tell;way;hop 20 tell;loss 99;");
        int[] due = {320, 999, 999, 20};
        for (int i = 0; i < 4; i++) {
            Due.is("passes of way " + i, x.way(i, 10), due[i]);
        }
        x.limit(0, 1, 641);
        Due.is("the last one is the least", x.way(0, 10), 480);
        x.limit(0, 2, 700);
        Due.is("the first one is the least", x.way(0, 10), 640);
    }
}
