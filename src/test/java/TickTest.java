/** Promise 6 and the terms of a TICK, each row worked out by hand from the document. */
public final class TickTest {
    public static void main(String[] args) {
        wrongNumbers();
        searchByToldSizes();
        searchBySilence();
        fallsBehindThreeMisses();
        missesEndByArrival();
        toldBackForLow();
        toldBackByWrongForLow();
        toldBelowBase();
        belowBaseBelievedByAll();
        nothingAtAllBelievedByAll();
        uncheckedAreLost();
        failsStartAnew();
        ages();
        agedGoesOnWhenNarrowedAgain();
        startsDone();
        lostByCrowding();
        mostTicks();
        Due.end();
    }

    private static void wrongNumbers() {
        GreatProbes x = new GreatProbes();
        String before = Due.picture(x);
        for (int n : new int[] {0, 100, -1, Integer.MAX_VALUE, Integer.MIN_VALUE}) {
            Due.is("tick(" + n + ")", x.tick(n), GreatProbes.BAD);
        }
        Due.unchanged("a bad tick", x, before);
        Due.that("tick(99)", x.tick(99) >= 0);
        Due.is("ticks", x.count(1), 99);
    }

    private static void searchByToldSizes() {
        GreatProbes x = Due.laid("way;hop 700 tell;");
        int[][] due = {{480, 900}, {690, 900}, {690, 700}, {695, 700}, {698, 700}, {699, 700}, {700, 700}};
        for (int n = 0; n < due.length; n++) {
            Due.is("tick " + n, x.tick(1), 0);
            Due.way("tick " + n, x, 0, due[n][0], due[n][1], n == 6 ? 1 : 0, 0, 0, 0, 0, 2 * n + 2, 0, n >= 2 ? 1 : 0);
        }
        GreatProbes at = Due.laid("way;hop 700 tell;");
        Due.is("seven at once", at.tick(7), 0);
        Due.way("seven at once", at, 0, 700, 700, 1, 0, 0, 0, 0, 14, 0, 1);
    }

    private static void searchBySilence() {
        GreatProbes x = Due.laid("way;hop 100 silent;base 20;top 200;");
        int[][] due = {{20, 200, 1}, {20, 200, 2}, {20, 109, 0}, {65, 109, 0}, {87, 109, 0}, {98, 109, 0},
            {98, 109, 1}, {98, 109, 2}, {98, 103, 0}, {98, 103, 1}, {98, 103, 2}, {98, 100, 0}, {99, 100, 0}, {100, 100, 0}};
        int lost = 0;
        for (int n = 0; n < due.length; n++) {
            boolean isLost = n < 3 || n > 5 && n < 12;
            Due.is("silent tick " + n, x.tick(1), isLost ? 1 : 0);
            lost += isLost ? 1 : 0;
            Due.way("silent tick " + n, x, 0, due[n][0], due[n][1], n == 13 ? 1 : 0, due[n][2], 0, 0, 0, 2 * n + 2, lost, 0);
        }
    }

    private static void fallsBehindThreeMisses() {
        GreatProbes x = Due.laid("way;hop 700 tell;");
        x.tick(7);
        x.kind(0, 0, 3);
        x.limit(0, 0, 300);
        Due.is("miss 1", x.tick(1), 1);
        Due.way("miss 1", x, 0, 700, 700, 1, 0, 1, 1, 0, 15, 1);
        Due.is("miss 2", x.tick(1), 1);
        Due.way("miss 2", x, 0, 700, 700, 1, 0, 2, 2, 0, 16, 2);
        Due.is("miss 3, and the probe of 380", x.tick(1), 2);
        Due.way("fallen", x, 0, 60, 699, 0, 1, 0, 0, 1, 18, 4);
        Due.is("the probe again", x.tick(1), 1);
        Due.way("fallen and on", x, 0, 60, 699, 0, 2, 0, 0, 1, 20, 5);
        x.tick(1);
        Due.way("the probe thrice", x, 0, 60, 379, 0, 0, 0, 0, 1, 22, 6);

        GreatProbes one = Due.laid("way;hop 61 silent;base 60;top 200;");
        one.limit(0, 0, 20);
        Due.is("at base nothing falls", one.tick(3), 6);
        Due.way("at base", one, 0, 60, 129, 0, 0, 0, 0, 0, 6, 6);
    }

    private static void missesEndByArrival() {
        GreatProbes x = Due.laid("way;hop 700 tell;");
        x.tick(7);
        x.loss(0, 99);
        x.kind(0, 0, 3);
        x.limit(0, 0, 699);
        x.tick(2);
        Due.is("misses", x.way(0, 4), 2);
        x.loss(0, 0);
        x.limit(0, 0, 700);
        Due.is("it arrives", x.tick(1), 0);
        Due.is("misses are gone", x.way(0, 4), 0);
        Due.is("nothing fell", x.way(0, 6), 0);
    }

    private static void toldBackForLow() {
        GreatProbes x = Due.laid("way;hop 999 tell;");
        Due.is("to 690", x.tick(2), 0);
        Due.way("to 690", x, 0, 690, 900, 0, 0, 0, 0, 0, 4, 0, 0);
        x.limit(0, 0, 500);
        Due.is("500 is told for 690", x.tick(1), 0);
        Due.way("narrowed: no probe is left to send", x, 0, 500, 500, 1, 0, 0, 0, 0, 5, 0, 1);
        x.limit(0, 0, 100);
        x.tick(1);
        Due.way("narrowed again", x, 0, 100, 100, 1, 0, 0, 1, 0, 6, 0, 2);
    }

    private static void toldBackByWrongForLow() {
        GreatProbes x = Due.laid("way;hop 999 wrong;");
        x.tick(2);
        x.limit(0, 0, 500);
        x.tick(1);
        Due.way("wrong: 460", x, 0, 460, 460, 1, 0, 0, 0, 0, 5, 0, 1);
        GreatProbes old = Due.laid("way;hop 999 old;");
        old.tick(2);
        old.limit(0, 0, 500);
        old.tick(1);
        Due.way("old: half of 690", old, 0, 345, 345, 1, 0, 0, 0, 0, 5, 0, 1);
    }

    private static void toldBelowBase() {
        GreatProbes x = Due.laid("way;hop 50 tell;");
        Due.is("checked: 50 is below base, lost twice a tick", x.tick(1), 2);
        Due.way("below base", x, 0, 60, 900, 0, 1, 1, 0, 0, 2, 2, 0);
        Due.is("on", x.tick(2), 4);
        Due.way("below base, thrice", x, 0, 60, 479, 0, 0, 0, 0, 0, 6, 6, 0);
    }

    private static void belowBaseBelievedByAll() {
        GreatProbes x = Due.laid("way;hop 20 wrong;believe all;");
        Due.is("0 is told and believed", x.tick(1), 0);
        Due.way("all", x, 0, 60, 60, 1, 0, 0, 0, 0, 1, 0, 1);
        GreatProbes high = Due.laid("way;hop 70 wrong;believe all;");
        high.tick(1);
        Due.way("all: a probe told 30, but low at least", high, 0, 60, 60, 1, 0, 0, 0, 0, 2, 0, 1);
        GreatProbes low = Due.laid("way;hop 999 wrong;believe all;");
        low.tick(1);
        low.limit(0, 0, 30);
        low.tick(1);
        Due.way("all: 0 told for 480, base at least", low, 0, 60, 60, 1, 0, 0, 0, 0, 3, 0, 1);
    }

    private static void nothingAtAllBelievedByAll() {
        GreatProbes x = Due.laid("way;hop 30 wrong;base 20;believe all;");
        x.tick(1);
        Due.way("a probe told 0, but low at least", x, 0, 20, 20, 1, 0, 0, 0, 0, 2, 0, 1);
        GreatProbes high = Due.laid("way;hop 100 silent;believe all;");
        high.tick(2);
        Due.way("two fails", high, 0, 60, 900, 0, 2);
        high.limit(0, 0, 20);
        high.kind(0, 0, 1);
        high.tick(1);
        Due.way("high alone became another one", high, 0, 60, 60, 1, 0, 0, 0, 0, 5, 2, 1);
    }

    private static void uncheckedAreLost() {
        GreatProbes x = Due.laid("way;hop 700 tell;believe none;");
        Due.is("none", x.tick(5), 3);
        Due.way("none", x, 0, 690, 794, 0, 0, 0, 0, 0, 10, 3, 0);
        GreatProbes exact = Due.laid("way;hop 100 wrong;");
        exact.tick(1);
        Due.way("checked: 60 is base", exact, 0, 60, 60, 1, 0, 0, 0, 0, 2, 0, 1);
        GreatProbes below = Due.laid("way;hop 99 wrong;");
        below.tick(1);
        Due.way("checked: 59 is less than base", below, 0, 60, 900, 0, 1, 0, 0, 0, 2, 1, 0);
    }

    private static void failsStartAnew() {
        GreatProbes x = Due.laid("way;hop 500 silent;");
        x.tick(3);
        Due.way("two fails at 690", x, 0, 480, 900, 0, 2, 0, 0, 0, 6, 2);
        x.limit(0, 0, 999);
        x.tick(1);
        Due.way("an arrival ends the fails", x, 0, 690, 900, 0, 0, 0);
        x.limit(0, 0, 690);
        x.tick(2);
        Due.way("two fails at 795", x, 0, 690, 900, 0, 2, 0);
        x.kind(0, 0, 0);
        x.tick(1);
        Due.way("a told size ends the fails", x, 0, 690, 690, 1, 0, 0);

        GreatProbes fallen = Due.laid("way;hop 480 silent;");
        fallen.tick(1);
        fallen.limit(0, 0, 400);
        fallen.tick(2);
        Due.way("misses and fails together", fallen, 0, 480, 900, 0, 2, 2);
        fallen.tick(1);
        Due.way("fallen: the fails begin anew, the probe of 270 arrives", fallen, 0, 270, 479, 0, 0, 0, 0, 1);
        GreatProbes twice = Due.laid("way;hop 480 silent;");
        twice.tick(1);
        twice.limit(0, 0, 200);
        twice.tick(3);
        Due.way("fallen: the probe of 270 is the first to fail", twice, 0, 60, 479, 0, 1, 0, 0, 1);
    }

    private static void ages() {
        GreatProbes x = Due.laid("way;hop 700 tell;age 2;");
        x.tick(7);
        x.tick(1);
        Due.way("aged 1", x, 0, 700, 700, 1, 0, 0, 1, 0, 15);
        x.tick(1);
        Due.way("tried again", x, 0, 700, 900, 0, 0, 0, 0, 0, 16);
        x.tick(1);
        Due.way("told again", x, 0, 700, 700, 1, 0, 0, 0, 0, 18, 0, 2);
        GreatProbes always = Due.laid("way;hop 700 tell;age 1;");
        always.tick(8);
        Due.way("age 1", always, 0, 700, 900, 0, 0, 0, 0, 0, 15);
        GreatProbes twenty = Due.laid("way;hop 700 tell;");
        twenty.tick(26);
        Due.way("19 ticks", twenty, 0, 700, 700, 1, 0, 0, 19, 0, 33);
        twenty.tick(1);
        Due.way("20 ticks", twenty, 0, 700, 900, 0, 0, 0, 0, 0, 34);
        GreatProbes open = Due.laid("way;age 3;");
        int n = 0;
        while (open.way(0, 2) == 0 && n < 99) {
            open.tick(1);
            n++;
        }
        Due.way("without hops up to top", open, 0, 900, 900, 1, 0, 0, 0, 0, 2 * n, 0, 0);
        open.tick(2);
        Due.is("aged", open.way(0, 5), 2);
        open.tick(1);
        Due.way("high is top already", open, 0, 900, 900, 1, 0, 0, 0, 0, 2 * n + 3);
    }

    /** A change of LOW in a TICK that leaves no PROBE to send still makes the WAY older. */
    private static void agedGoesOnWhenNarrowedAgain() {
        GreatProbes x = Due.laid("way;hop 700 tell;age 3;");
        x.tick(9);
        Due.is("aged", x.way(0, 5), 2);
        x.limit(0, 0, 400);
        x.tick(1);
        Due.way("told and of age at once", x, 0, 400, 900, 0, 0, 0, 0, 0, 17, 0, 2);
        GreatProbes fallen = Due.laid("way;hop 700 tell;");
        fallen.tick(10);
        Due.is("aged 3", fallen.way(0, 5), 3);
        fallen.kind(0, 0, 3);
        fallen.limit(0, 0, 300);
        fallen.tick(3);
        Due.is("searching: aged is 0", fallen.way(0, 5), 0);
    }

    private static void startsDone() {
        GreatProbes x = Due.laid("way;base 200;top 200;age 2;hop 100 silent;");
        Due.is("done at first", x.way(0, 2), 1);
        Due.is("three misses at base", x.tick(3), 3);
        Due.way("done at first", x, 0, 200, 200, 1, 0, 0, 1, 0, 3, 3);
    }

    private static void lostByCrowding() {
        GreatProbes x = Due.laid("way;loss 50;way;hop 20 silent;loss 0;");
        int lost = 0;
        for (int n = 0; n < 60; n++) {
            lost += x.tick(1);
        }
        int due = 0;
        for (int k = 0; k < x.way(0, 7); k++) {
            due += x.draw(0, k) % 100 < 50 ? 1 : 0;
        }
        Due.is("lost by draws", x.way(0, 8), due);
        Due.that("some are lost, some not", due > 10 && due < x.way(0, 7) - 10);
        Due.is("all that tick() told", lost, x.way(0, 8) + x.way(1, 8));
        Due.is("a draw of 1 is not below a loss of 1", Due.laid("way;loss 1;").send(0, 1), 0);
        Due.is("a draw of 1 is below a loss of 2", Due.laid("way;loss 2;").send(0, 1), 1);
    }

    private static void mostTicks() {
        GreatProbes x = new GreatProbes();
        for (int n = 0; n < 100; n++) {
            x.tick(99);
        }
        x.tick(98);
        Due.is("ticks", x.count(1), 9998);
        String before = Due.picture(x);
        Due.is("two more", x.tick(2), GreatProbes.NO);
        Due.is("99 more", x.tick(99), GreatProbes.NO);
        Due.is("a bad number first", x.tick(100), GreatProbes.BAD);
        Due.unchanged("a refused tick", x, before);
        Due.that("one more", x.tick(1) >= 0);
        Due.is("ticks", x.count(1), 9999);
        Due.is("none more", x.tick(1), GreatProbes.NO);
        Due.that("ahead is not bound by it", x.ahead(99, 0, 0) > 0);
        Due.is("undo", x.undo(), 3);
        Due.is("ticks", x.count(1), 9998);
    }
}
