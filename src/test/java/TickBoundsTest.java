import java.math.BigInteger;

/** The sentences on LETTERS and TICKS that name a bound, each just at it and just beyond it: promises 6 and 7, and their terms. */
public final class TickBoundsTest {
    public static void main(String[] args) {
        lostByLoss();
        countedSinceLaid();
        countedBeyondDraws();
        limitIsBelowSize();
        toldBack();
        arrives();
        believed();
        doneAtFirst();
        missesEnd();
        threeMisses();
        lowIsBaseAtLeast();
        highIsLowAtLeast();
        failsBeginAnew();
        probeOrNot();
        sizeOfProbe();
        probeArrives();
        probeToldBack();
        threeFails();
        ageComes();
        agedIsGone();
        passes();
        ticksAtOnce();
        ticksInAll();
        lostInTicks();
        Due.end();
    }

    private static void lostByLoss() {
        Due.sentence("it is LOST, if DRAW k modulo 100 is below LOSS.");
        int[][] drawsAndRest = {{117, 0}, {0, 1}, {159, 2}, {23, 50}, {74, 98}, {30, 99}};
        for (int[] row : drawsAndRest) {
            for (int loss = 0; loss <= 99; loss++) {
                GreatProbes x = Due.laid("way;draws " + row[0] + ";loss " + loss + ";");
                String call = "letter 0 with draw " + row[1] + ", loss " + loss;
                Due.is(call, x.send(0, 1), row[1] < loss ? 1 : 0);
                Due.is(call + ": lost", x.way(0, 8), row[1] < loss ? 1 : 0);
            }
        }
        GreatProbes silent = Due.laid("way;hop 20 tell;loss 2;");
        Due.is("lost ahead of the hop", silent.send(0, 999), 1);
        Due.is("the hop", silent.send(0, 999), 22);
    }

    private static void countedSinceLaid() {
        Due.sentence("the k-th of it (0 the first since LAID)");
        GreatProbes x = Due.laid("way;loss 50;way;loss 50;draws 23;");
        for (int round = 0; round < 3; round++) {
            for (int n = 0; n < 12; n++) {
                int i = n % 3 == 0 ? 1 : 0;
                int k = x.way(i, 7);
                Due.is("letter " + k + " of way " + i, x.send(i, 1), x.draw(i, k) % 100 < 50 ? 1 : 0);
                Due.is("sent", x.way(i, 7), k + 1);
            }
            int k = x.way(0, 7);
            int again = x.send(0, 1);
            x.undo();
            Due.is("undone, it is letter " + k + " again", x.send(0, 1), again);
            x.tick(2);
            k = x.way(0, 7);
            Due.is("letters of ticks count, too", x.send(0, 1), x.draw(0, k) % 100 < 50 ? 1 : 0);
            x.lay();
            Due.is("laid again", x.way(0, 7), 0);
        }
    }

    /** draw() tells no more than 10000 of them, but a WAY may send nearly twice as many LETTERS. */
    private static void countedBeyondDraws() {
        Due.sentence("DRAW k (0 on) of WAY i: (x times x) modulo 65521, x being 7919 Z, 6151 i, 3571 k and 1 together.");
        GreatProbes x = Due.laid("way;way;hop 20 silent;loss 50;age 1;draws 9999;");
        x.kind(1, 0, 0);
        x.limit(1, 0, 999);
        int lost = 0;
        for (int n = 0; n < 101; n++) {
            lost += x.tick(99);
        }
        int sent = x.way(1, 7);
        int due = 0;
        for (int k = 0; k < sent; k++) {
            due += isBelow(9999, 1, k, 50) ? 1 : 0;
        }
        Due.that("more letters than draw() tells: " + sent, sent > 10000);
        Due.is("lost", x.way(1, 8), due);
        Due.is("lost by tick()", lost, due);
        for (int k = sent; k < sent + 20; k++) {
            Due.is("letter " + k, x.send(1, 1), isBelow(9999, 1, k, 50) ? 1 : 0);
        }
    }

    private static boolean isBelow(int z, int i, int k, int loss) {
        BigInteger sum = BigInteger.valueOf(7919L * z + 6151L * i + 3571L * k + 1);
        return sum.multiply(sum).mod(BigInteger.valueOf(65521)).intValue() % 100 < loss;
    }

    private static void limitIsBelowSize() {
        Due.sentence("Else the first HOP whose LIMIT is below SIZE drops it:");
        GreatProbes x = Due.laid("way;hop 500 tell;hop 300 silent;hop 500 wrong;way;hop 300 silent;hop 500 tell;");
        Due.is("none below 300", x.send(0, 300), 0);
        Due.is("hop 1 alone below 301", x.send(0, 301), 1);
        Due.is("hop 1 alone below 500", x.send(0, 500), 1);
        Due.is("hop 0 is the first below 501", x.send(0, 501), 502);
        Due.is("hop 0 is the first, though not the least, below 301", x.send(1, 301), 1);
        Due.is("hop 0 is the first below 501", x.send(1, 501), 1);
        GreatProbes ends = Due.laid("way;hop 20 tell;way;hop 998 tell;way;hop 999 tell;");
        Due.is("20 of 20", ends.send(0, 20), 0);
        Due.is("21 of 20", ends.send(0, 21), 22);
        Due.is("998 of 998", ends.send(1, 998), 0);
        Due.is("999 of 998", ends.send(1, 999), 1000);
        Due.is("999 of 999", ends.send(2, 999), 0);
    }

    private static void toldBack() {
        Due.sentence("WRONG its LIMIT less 40 (0 at least), OLD half of SIZE, cut; by SILENT it is LOST.");
        int[][] limitAndTold = {{20, 0}, {39, 0}, {40, 0}, {41, 1}, {42, 2}, {998, 958}};
        for (int[] row : limitAndTold) {
            GreatProbes x = Due.laid("way;hop " + row[0] + " wrong;");
            Due.is("wrong of " + row[0], x.send(0, row[0] + 1), 2 + row[1]);
            Due.is("wrong of " + row[0] + ", not by its size", x.send(0, 999), 2 + row[1]);
        }
        int[][] sizeAndHalf = {{21, 10}, {22, 11}, {23, 11}, {998, 499}, {999, 499}};
        for (int[] row : sizeAndHalf) {
            Due.is("old of " + row[0], Due.laid("way;hop 20 old;").send(0, row[0]), 2 + row[1]);
        }
        Due.is("silent", Due.laid("way;hop 20 silent;").send(0, 21), 1);
        Due.is("tell", Due.laid("way;hop 20 tell;").send(0, 999), 22);
    }

    private static void arrives() {
        Due.sentence("If there is none, it ARRIVES.");
        GreatProbes x = Due.laid("way;");
        Due.is("least without hops", x.send(0, 1), 0);
        Due.is("most without hops", x.send(0, 999), 0);
        Due.way("arrived", x, 0, 60, 900, 0, 0, 0, 0, 0, 2, 0, 0);
    }

    /** T is below SIZE whatever the KIND, so of 'BASE or more and below SIZE' the first half alone can fail. */
    private static void believed() {
        Due.sentence("by all always; by checked, if T is BASE or more and below SIZE; by none never.");
        String[] hops = {"hop 60 tell", "hop 59 tell", "hop 100 wrong", "hop 99 wrong", "hop 20 old", "hop 20 old", "hop 20 wrong", "hop 998 tell"};
        int[] sizes = {61, 60, 101, 100, 120, 119, 21, 999};
        int[] told = {60, 59, 60, 59, 60, 59, 0, 998};
        for (int n = 0; n < hops.length; n++) {
            for (int m = 0; m <= 2; m++) {
                GreatProbes x = Due.laid("way;" + hops[n] + ";");
                x.believe(m);
                boolean trusted = m == 0 || m == 1 && told[n] >= 60;
                String call = hops[n] + " by " + m;
                Due.is(call, x.send(0, sizes[n]), 2 + told[n]);
                Due.is(call + ": believed", x.way(0, 9), trusted ? 1 : 0);
                Due.is(call + ": lost", x.way(0, 8), trusted ? 0 : 1);
            }
        }
        Due.sentence("One that is told back and not believed is LOST, too.");
        GreatProbes least = Due.laid("way;hop 20 tell;base 20;");
        least.send(0, 21);
        Due.way("20 with base 20", least, 0, 20, 900, 0, 0, 0, 0, 0, 1, 0, 1);
        GreatProbes most = Due.laid("way;hop 199 tell;way;hop 200 tell;base 200;");
        most.send(0, 200);
        most.send(1, 201);
        Due.way("199 with base 200", most, 0, 200, 900, 0, 0, 0, 0, 0, 1, 1, 0);
        Due.way("200 with base 200", most, 1, 200, 900, 0, 0, 0, 0, 0, 1, 0, 1);
        Due.is("lost of all", most.count(9), 1);
    }

    private static void doneAtFirst() {
        Due.sentence("STATE (0 SEARCHING, 1 DONE; at first 0; DONE, if LOW is HIGH)");
        Due.way("60 to 900", Due.laid("way;"), 0, 60, 900, 0, 0, 0, 0, 0, 0, 0, 0);
        Due.way("200 to 200", Due.laid("way;base 200;top 200;"), 0, 200, 200, 1, 0, 0, 0, 0, 0, 0, 0);
        Due.way("199 to 200", Due.laid("way;base 199;top 200;"), 0, 199, 200, 0);
        Due.way("200 to 201", Due.laid("way;base 200;top 201;"), 0, 200, 201, 0);
        Due.way("20 to 999", Due.laid("way;base 20;top 999;"), 0, 20, 999, 0);
    }

    /** LOW and HIGH stand at 200 (BASE) and as much more, DONE; then LIMIT and KIND of the one HOP are told anew. */
    private static GreatProbes doneAbove(int above, int limit, int kind) {
        GreatProbes x = Due.laid("way;hop 999 silent;base 200;top " + (200 + above) + ";");
        x.tick(above == 0 ? 1 : above);
        Due.way("done at " + (200 + above), x, 0, 200 + above, 200 + above, 1, 0, 0, above == 0 ? 1 : 0, 0, above == 0 ? 1 : 2 * above, 0, 0);
        x.limit(0, 0, limit);
        x.kind(0, 0, kind);
        return x;
    }

    private static void missesEnd() {
        Due.sentence("It ARRIVES: MISSES are 0.");
        GreatProbes x = doneAbove(2, 201, 3);
        Due.is("two misses", x.tick(2), 2);
        Due.is("misses", x.way(0, 4), 2);
        x.limit(0, 0, 202);
        Due.is("it arrives", x.tick(1), 0);
        Due.way("arrived", x, 0, 202, 202, 1, 0, 0, 3, 0, 7, 2, 0);
        x.limit(0, 0, 201);
        Due.is("two misses more do not fall", x.tick(2), 2);
        Due.way("two misses more", x, 0, 202, 202, 1, 0, 2, 5, 0, 9, 4, 0);

        Due.sentence("T is believed: MISSES are 0, LOW becomes T, if T is less, but BASE at least;");
        GreatProbes told = doneAbove(2, 201, 3);
        told.tick(2);
        told.kind(0, 0, 0);
        Due.is("it is told", told.tick(1), 0);
        Due.way("told", told, 0, 201, 201, 1, 0, 0, 3, 0, 7, 2, 1);
    }

    private static void threeMisses() {
        Due.sentence("are they 3, MISSES are 0, and if LOW is above BASE, it has FALLEN once more: HIGH becomes LOW less 1, LOW becomes BASE.");
        GreatProbes at = doneAbove(0, 199, 3);
        at.tick(1);
        Due.way("at base: 1", at, 0, 200, 200, 1, 0, 1, 2, 0, 2, 1);
        at.tick(1);
        Due.way("at base: 2", at, 0, 200, 200, 1, 0, 2, 3, 0, 3, 2);
        at.tick(1);
        Due.way("at base: 3, nothing falls", at, 0, 200, 200, 1, 0, 0, 4, 0, 4, 3);
        at.tick(1);
        Due.way("at base: 4", at, 0, 200, 200, 1, 0, 1, 5, 0, 5, 4);

        GreatProbes one = doneAbove(1, 200, 3);
        one.tick(2);
        Due.way("one above: 2", one, 0, 201, 201, 1, 0, 2, 2, 0, 4, 2);
        one.tick(1);
        Due.way("one above: fallen to base, no size is left to feel for", one, 0, 200, 200, 1, 0, 0, 3, 1, 5, 3);
        one.tick(1);
        Due.way("one above: base arrives", one, 0, 200, 200, 1, 0, 0, 4, 1, 6, 3);

        GreatProbes two = doneAbove(2, 200, 3);
        two.tick(2);
        Due.way("two above: 2", two, 0, 202, 202, 1, 0, 2, 2, 0, 6, 2);
        two.tick(1);
        Due.way("two above: fallen, 201 is felt for at once", two, 0, 200, 201, 0, 1, 0, 0, 1, 8, 4);

        GreatProbes found = doneAbove(2, 201, 3);
        found.tick(3);
        Due.way("two above: fallen, 201 arrives in the same tick", found, 0, 201, 201, 1, 0, 0, 2, 1, 8, 3);
        found.limit(0, 0, 200);
        found.tick(3);
        Due.way("fallen again", found, 0, 200, 200, 1, 0, 0, 5, 2, 11, 6);
    }

    private static void lowIsBaseAtLeast() {
        Due.sentence("LOW becomes T, if T is less, but BASE at least;");
        GreatProbes one = doneAbove(2, 201, 0);
        one.tick(1);
        Due.way("one above base is told", one, 0, 201, 201, 1, 0, 0, 1, 0, 5, 0, 1);
        GreatProbes base = doneAbove(2, 200, 0);
        base.tick(1);
        Due.way("base is told", base, 0, 200, 200, 1, 0, 0, 1, 0, 5, 0, 1);
        GreatProbes less = doneAbove(2, 199, 0);
        less.tick(1);
        Due.way("checked: less than base is lost", less, 0, 202, 202, 1, 0, 1, 1, 0, 5, 1, 0);
        less.believe(0);
        less.tick(1);
        Due.way("all: less than base is told", less, 0, 200, 200, 1, 0, 0, 2, 0, 6, 1, 1);
        GreatProbes nothing = doneAbove(2, 20, 1);
        nothing.believe(0);
        nothing.tick(1);
        Due.way("all: 0 is told", nothing, 0, 200, 200, 1, 0, 0, 1, 0, 5, 0, 1);
    }

    private static void highIsLowAtLeast() {
        Due.sentence("HIGH becomes T, if T is less, but LOW at least.");
        GreatProbes x = Due.laid("way;hop 199 tell;base 200;top 203;believe all;");
        x.tick(1);
        Due.way("199 is told for 200", x, 0, 200, 200, 1, 0, 0, 0, 0, 1, 0, 1);
        GreatProbes above = Due.laid("way;hop 999 tell;base 200;top 205;");
        above.tick(1);
        Due.way("searching", above, 0, 203, 205, 0);
        above.limit(0, 0, 201);
        above.tick(1);
        Due.way("201 is told for 203", above, 0, 201, 201, 1, 0, 0, 0, 0, 3, 0, 1);
    }

    private static void failsBeginAnew() {
        Due.sentence("FAILS are 0, when LOW or HIGH became another one.");
        GreatProbes low = Due.laid("way;hop 203 silent;base 200;top 209;");
        low.tick(1);
        Due.way("205 fails", low, 0, 200, 209, 0, 1);
        low.limit(0, 0, 205);
        low.tick(1);
        Due.way("205 arrives", low, 0, 205, 209, 0, 0);
        low.limit(0, 0, 204);
        low.tick(2);
        Due.way("205 missed twice, 207 failed twice", low, 0, 205, 209, 0, 2, 2, 0, 0, 8, 5);
        low.limit(0, 0, 201);
        low.tick(1);
        Due.way("fallen: 202 is the first to fail", low, 0, 200, 204, 0, 1, 0, 0, 1, 10, 7);
        GreatProbes high = Due.laid("way;hop 200 silent;base 200;top 203;believe all;");
        high.tick(2);
        Due.way("two fails", high, 0, 200, 203, 0, 2, 0);
        high.limit(0, 0, 199);
        high.kind(0, 0, 0);
        high.tick(1);
        Due.way("high alone became another one", high, 0, 200, 200, 1, 0, 0, 0, 0, 5, 2, 1);
    }

    private static void probeOrNot() {
        Due.sentence("Then, if LOW is below HIGH and STATE was 0 as the TICK began, or LOW or HIGH became another one in it: a PROBE is sent");
        GreatProbes searching = Due.laid("way;base 200;top 201;");
        searching.tick(1);
        Due.way("searching: two letters", searching, 0, 201, 201, 1, 0, 0, 0, 0, 2);
        searching.tick(1);
        Due.way("done: one letter, older", searching, 0, 201, 201, 1, 0, 0, 1, 0, 3);
        GreatProbes narrowed = Due.laid("way;hop 199 tell;base 200;top 203;believe all;");
        narrowed.tick(1);
        Due.way("searching, but narrowed: one letter, not older", narrowed, 0, 200, 200, 1, 0, 0, 0, 0, 1);
        narrowed.tick(1);
        Due.way("done, told the same: one letter, older", narrowed, 0, 200, 200, 1, 0, 0, 1, 0, 2);
        GreatProbes fallen = doneAbove(2, 200, 3);
        fallen.tick(2);
        int sent = fallen.way(0, 7);
        fallen.tick(1);
        Due.is("done, but fallen: two letters", fallen.way(0, 7), sent + 2);
    }

    private static void sizeOfProbe() {
        Due.sentence("a LETTER of SIZE LOW and (HIGH less LOW and 1) by 2, cut, together.");
        int[] due = {201, 201, 202, 202, 203, 203};
        for (int above = 1; above <= due.length; above++) {
            GreatProbes x = Due.laid("way;base 200;top " + (200 + above) + ";");
            Due.is("probe of 200 to " + (200 + above), x.probe(0), due[above - 1]);
            x.tick(1);
            Due.is("it was sent and arrived", x.way(0, 0), due[above - 1]);
        }
        Due.is("the widest", Due.laid("way;base 20;top 999;").probe(0), 510);
        Due.is("200 to 200", Due.laid("way;base 200;top 200;").probe(0), GreatProbes.NONE);
    }

    private static void probeArrives() {
        Due.sentence("It ARRIVES: LOW becomes that SIZE, FAILS are 0.");
        GreatProbes x = Due.laid("way;hop 201 silent;base 200;top 203;");
        x.tick(2);
        Due.way("202 fails twice", x, 0, 200, 203, 0, 2, 0, 0, 0, 4, 2);
        x.limit(0, 0, 202);
        x.tick(1);
        Due.way("202 arrives", x, 0, 202, 203, 0, 0, 0, 0, 0, 6, 2);
        x.tick(2);
        Due.way("203 fails twice", x, 0, 202, 203, 0, 2, 0, 0, 0, 10, 4);
    }

    private static void probeToldBack() {
        Due.sentence("HIGH becomes T, if T is less, but LOW at least; FAILS are 0.");
        GreatProbes one = Due.laid("way;hop 201 tell;base 200;top 203;");
        one.tick(1);
        Due.way("201 is told for 202", one, 0, 200, 201, 0, 0, 0, 0, 0, 2, 0, 1);
        GreatProbes low = Due.laid("way;hop 200 tell;base 200;top 203;");
        low.tick(1);
        Due.way("200 is told for 202", low, 0, 200, 200, 1, 0, 0, 0, 0, 2, 0, 1);
        GreatProbes less = Due.laid("way;hop 200 wrong;base 200;top 203;");
        less.tick(2);
        Due.way("checked: 160 is lost", less, 0, 200, 203, 0, 2, 0, 0, 0, 4, 2, 0);
        less.believe(0);
        less.tick(1);
        Due.way("all: 160 is told, the fails are gone", less, 0, 200, 200, 1, 0, 0, 0, 0, 6, 2, 1);
        GreatProbes nothing = Due.laid("way;hop 20 wrong;base 20;top 200;believe all;");
        nothing.tick(1);
        Due.way("all: 0 is told", nothing, 0, 20, 20, 1, 0, 0, 0, 0, 2, 0, 1);
    }

    private static void threeFails() {
        Due.sentence("It is LOST: FAILS are 1 more; are they 3, HIGH becomes that SIZE less 1, FAILS are 0.");
        GreatProbes x = Due.laid("way;hop 200 silent;base 200;top 203;");
        int[][] due = {{203, 0, 1}, {203, 0, 2}, {201, 0, 0}, {201, 0, 1}, {201, 0, 2}, {200, 1, 0}};
        for (int n = 0; n < due.length; n++) {
            Due.is("tick " + n, x.tick(1), 1);
            Due.way("tick " + n, x, 0, 200, due[n][0], due[n][1], due[n][2], 0, 0, 0, 2 * n + 2, n + 1);
        }
    }

    private static void ageComes() {
        Due.sentence("AGED is 1 more; is it AGE, AGED is 0, and HIGH becomes TOP.");
        for (int age : new int[] {1, 2, 3, 98, 99}) {
            GreatProbes x = Due.laid("way;hop 200 tell;base 200;top 203;age " + age + ";");
            x.tick(1);
            Due.way("done", x, 0, 200, 200, 1, 0, 0, 0, 0, 2, 0, 1);
            if (age > 1) {
                x.tick(age - 1);
            }
            Due.way("one short of age " + age, x, 0, 200, 200, 1, 0, 0, age - 1, 0, 1 + age, 0, 1);
            x.tick(1);
            Due.way("age " + age, x, 0, 200, 203, 0, 0, 0, 0, 0, 2 + age, 0, 1);
            x.tick(1);
            Due.way("age " + age + ", felt for again", x, 0, 200, 200, 1, 0, 0, 0, 0, 4 + age, 0, 2);
        }
        GreatProbes narrow = Due.laid("way;base 200;top 200;age 2;");
        int[] aged = {1, 0, 1, 0};
        for (int n = 0; n < aged.length; n++) {
            narrow.tick(1);
            Due.way("nothing to feel for, tick " + n, narrow, 0, 200, 200, 1, 0, 0, aged[n], 0, n + 1);
        }
    }

    private static void agedIsGone() {
        Due.sentence("In the end STATE is 1, if LOW is HIGH, else 0; AGED is 0, if STATE is 0.");
        GreatProbes x = doneAbove(2, 200, 3);
        x.tick(2);
        Due.is("aged", x.way(0, 5), 2);
        x.tick(1);
        Due.way("searching again", x, 0, 200, 201, 0, 1, 0, 0, 1);
        GreatProbes told = Due.laid("way;hop 999 tell;base 200;top 202;age 3;");
        told.tick(4);
        Due.is("aged", told.way(0, 5), 2);
        told.limit(0, 0, 201);
        told.tick(1);
        Due.way("told, and of age", told, 0, 201, 202, 0, 0, 0, 0, 0, 7, 0, 1);
    }

    private static void passes() {
        Due.sentence("PASSES of a WAY: the least LIMIT of its HOPS, 999 at most (999 without HOPS).");
        GreatProbes x = Due.laid("way;way;hop 999 old;way;hop 998 tell;hop 999 tell;way;hop 700 tell;hop 20 silent;hop 21 tell;");
        int[] due = {999, 999, 998, 20};
        for (int i = 0; i < 4; i++) {
            Due.is("passes of " + i, x.way(i, 10), due[i]);
        }
        x.limit(3, 1, 999);
        Due.is("the last is the least", x.way(3, 10), 21);
        x.limit(3, 2, 999);
        Due.is("the first is the least", x.way(3, 10), 700);
        x.limit(3, 0, 999);
        Due.is("all 999", x.way(3, 10), 999);
    }

    private static void ticksAtOnce() {
        Due.sentence("n TICKS (1 to 99) go by: how many LETTERS are LOST in them, of all WAYS. BAD;");
        for (int n : new int[] {1, 2, 98, 99}) {
            GreatProbes x = new GreatProbes();
            Due.that("tick(" + n + ")", x.tick(n) >= 0);
            Due.is("ticks", x.count(1), n);
            Due.is("one change", x.count(10), 1);
        }
        for (int n : new int[] {0, 100, -1, -99, 101, 9999, 10000, 65537, Integer.MAX_VALUE, Integer.MIN_VALUE}) {
            Due.refuses("tick(" + n + ")", TickBoundsTest::changed, x -> x.tick(n), GreatProbes.BAD);
        }
    }

    private static GreatProbes changed() {
        GreatProbes x = new GreatProbes();
        x.tick(9);
        x.loss(0, 7);
        return x;
    }

    private static GreatProbes behind(int times99, int more) {
        GreatProbes x = Due.laid("way;hop 500 silent;");
        for (int n = 0; n < times99; n++) {
            x.tick(99);
        }
        if (more > 0) {
            x.tick(more);
        }
        return x;
    }

    private static void ticksInAll() {
        Due.sentence("NO: there would be more than 9999.");
        GreatProbes x = behind(100, 0);
        Due.that("99 from 9900 on", x.tick(99) >= 0);
        Due.is("ticks", x.count(1), 9999);
        Due.is("undo", x.undo(), 3);
        Due.is("ticks", x.count(1), 9900);
        Due.that("98 from 9900 on", x.tick(98) >= 0);
        Due.that("one from 9998 on", x.tick(1) >= 0);
        Due.is("ticks", x.count(1), 9999);
        Due.refuses("one from 9999 on", () -> behind(101, 0), y -> y.tick(1), GreatProbes.NO);
        Due.refuses("99 from 9999 on", () -> behind(101, 0), y -> y.tick(99), GreatProbes.NO);
        Due.refuses("99 from 9901 on", () -> behind(100, 1), y -> y.tick(99), GreatProbes.NO);
        Due.refuses("2 from 9998 on", () -> behind(100, 98), y -> y.tick(2), GreatProbes.NO);
        Due.that("98 from 9901 on", behind(100, 1).tick(98) >= 0);
        GreatProbes again = behind(101, 0);
        Due.is("lay", again.lay(), 1);
        Due.that("no tick has gone by since", again.tick(99) >= 0);
        Due.is("ticks", again.count(1), 99);
    }

    private static void lostInTicks() {
        Due.sentence("how many LETTERS are LOST in them, of all WAYS.");
        Due.is("none", Due.laid("way;").tick(99), 0);
        Due.is("both of each", Due.laid("way;hop 20 silent;way;hop 20 silent;").tick(1), 4);
        Due.is("both of the last", Due.laid("way;way;way;way;hop 20 silent;").tick(2), 4);
        GreatProbes x = Due.laid("way;hop 20 silent;");
        x.send(0, 999);
        Due.is("not what was lost ahead of them", x.tick(1), 2);
        Due.is("lost in all", x.count(9), 3);
    }
}
