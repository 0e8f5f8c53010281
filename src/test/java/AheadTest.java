/** Promises 19 to 22: ahead, soon, best, count. */
public final class AheadTest {
    private static final int[] FAR = {-1, Integer.MIN_VALUE, Integer.MAX_VALUE};

    public static void main(String[] args) {
        aheadIsWhatComes();
        aheadByHand();
        wrongNumbers();
        soonByHand();
        soonAtTheEnds();
        soonAtTheLastTicks();
        soonFromNowOn();
        bests();
        counts();
        Due.end();
    }

    private static void aheadIsWhatComes() {
        String text = "way;hop 700 tell;hop 333 silent;loss 30;way;hop 500 wrong;loss 60;way;hop 640 old;way;hop 90 silent;age 3;draws 41;";
        for (int n : new int[] {1, 2, 7, 30, 98, 99}) {
            GreatProbes x = Due.laid(text);
            x.tick(20);
            x.limit(0, 1, 200);
            x.believe(2);
            String before = Due.picture(x);
            int[][] told = new int[4][5];
            int[][] was = new int[4][2];
            for (int i = 0; i < 4; i++) {
                was[i][0] = x.way(i, 6);
                was[i][1] = x.way(i, 8);
                for (int what = 0; what < 5; what++) {
                    told[i][what] = x.ahead(n, i, what);
                }
            }
            Due.unchanged("ahead", x, before);
            x.tick(n);
            for (int i = 0; i < 4; i++) {
                String call = "ahead(" + n + ", " + i + ", ";
                Due.is(call + "0)", told[i][0], x.way(i, 0));
                Due.is(call + "1)", told[i][1], x.way(i, 1));
                Due.is(call + "2)", told[i][2], x.way(i, 2));
                Due.is(call + "3)", told[i][3], x.way(i, 6) - was[i][0]);
                Due.is(call + "4)", told[i][4], x.way(i, 8) - was[i][1]);
            }
        }
    }

    private static void aheadByHand() {
        GreatProbes x = Due.laid("way;hop 700 tell;");
        Due.is("low", x.ahead(3, 0, 0), 690);
        Due.is("high", x.ahead(3, 0, 1), 700);
        Due.is("state", x.ahead(7, 0, 2), 1);
        x.tick(7);
        x.kind(0, 0, 3);
        x.limit(0, 0, 300);
        x.tick(3);
        Due.is("fallen once", x.way(0, 6), 1);
        Due.is("none fallen in one more", x.ahead(1, 0, 3), 0);
        Due.is("one lost in one more", x.ahead(1, 0, 4), 1);
    }

    private static void wrongNumbers() {
        GreatProbes x = new GreatProbes();
        Due.is("0 ticks", x.ahead(0, 0, 0), GreatProbes.BAD);
        Due.is("100 ticks", x.ahead(100, 0, 0), GreatProbes.BAD);
        Due.is("no way", x.ahead(1, 3, 0), GreatProbes.BAD);
        Due.is("what 5", x.ahead(1, 0, 5), GreatProbes.BAD);
        Due.is("soon of no way", x.soon(3, 0), GreatProbes.BAD);
        Due.is("soon by 3", x.soon(0, 3), GreatProbes.BAD);
        Due.is("best of no way", x.best(3), GreatProbes.BAD);
        Due.is("count(12)", x.count(12), GreatProbes.BAD);
        for (int far : FAR) {
            Due.is("far ticks", x.ahead(far, 0, 0), GreatProbes.BAD);
            Due.is("far way", x.ahead(1, far, 0), GreatProbes.BAD);
            Due.is("far what", x.ahead(1, 0, far), GreatProbes.BAD);
            Due.is("soon of a far way", x.soon(far, 0), GreatProbes.BAD);
            Due.is("soon by a far belief", x.soon(0, far), GreatProbes.BAD);
            Due.is("best of a far way", x.best(far), GreatProbes.BAD);
            Due.is("count of far", x.count(far), GreatProbes.BAD);
        }
    }

    private static void soonByHand() {
        GreatProbes x = Due.laid("way;hop 700 tell;way;hop 100 silent;way;hop 700 wrong;base 20;top 200;");
        Due.is("top is less: 20, 110, 155, 178, 189, 195, 198, 199, 200", x.soon(0, 1), 8);
        Due.is("silent", x.soon(1, 0), 14);
        GreatProbes told = Due.laid("way;hop 700 tell;way;hop 700 wrong;way;hop 700 old;");
        String before = Due.picture(told);
        Due.is("told", told.soon(0, 0), 7);
        Due.is("told, checked", told.soon(0, 1), 7);
        Due.is("told falsely", told.soon(1, 1), GreatProbes.NONE);
        Due.is("told falsely, to all", told.soon(1, 0), GreatProbes.NONE);
        Due.is("told without a size", told.soon(2, 1), GreatProbes.NONE);
        Due.is("told falsely, not believed", told.soon(1, 2), told.soon(0, 2));
        Due.unchanged("soon", told, before);
        told.tick(7);
        Due.is("it is so already: one tick", told.soon(0, 1), 1);
    }

    private static void soonAtTheEnds() {
        GreatProbes x = Due.laid("way;hop 30 silent;way;");
        Due.is("passes less than base", x.soon(0, 0), 1);
        Due.is("up to top without hops", x.soon(1, 0), firstTickAt(Due.laid("way;"), 900));
        Due.is("base itself", Due.laid("way;hop 60 tell;").soon(0, 0), 1);
        Due.is("top itself", Due.laid("way;hop 900 tell;").soon(0, 0), firstTickAt(Due.laid("way;"), 900));
        Due.is("above top", Due.laid("way;hop 901 tell;").soon(0, 0), firstTickAt(Due.laid("way;"), 900));
        Due.is("crowded", Due.laid("way;hop 300 tell;loss 99;").soon(0, 0), GreatProbes.NONE);
        Due.is("base is top", Due.laid("way;base 200;top 200;hop 20 tell;").soon(0, 1), 1);
    }

    /** Texts found by trying draws, so that LOW comes to 100 just there. */
    private static void soonAtTheLastTicks() {
        int[][] lossDrawsTick = {{30, 206, 98}, {25, 48, 99}, {60, 338, 99}, {30, 14, 100}, {65, 94, 100}};
        for (int[] row : lossDrawsTick) {
            String text = "way;hop 100 silent;loss " + row[0] + ";draws " + row[1] + ";";
            int due = row[2] > 99 ? GreatProbes.NONE : row[2];
            GreatProbes x = Due.laid(text);
            Due.is("soon of " + text, x.soon(0, 0), due);
            Due.is("best of " + text, x.best(0), due == GreatProbes.NONE ? due : 0);
            for (int n = 1; n < row[2]; n++) {
                x.tick(1);
                Due.that("not at 100 by tick " + n + " of " + text, x.way(0, 0) != 100);
            }
            x.tick(1);
            Due.is("low at last of " + text, x.way(0, 0), 100);
        }
    }

    private static int firstTickAt(GreatProbes x, int low) {
        for (int n = 1; n <= 99; n++) {
            x.tick(1);
            if (x.way(0, 0) == low) {
                return n;
            }
        }
        return GreatProbes.NONE;
    }

    private static void soonFromNowOn() {
        String text = "way;hop 820 wrong;hop 410 tell;loss 12;draws 9;";
        for (int m = 0; m <= 2; m++) {
            GreatProbes x = Due.laid(text);
            x.tick(2);
            int told = x.soon(0, m);
            x.believe(m);
            Due.is("soon by " + m, told, firstTickAt(x, 410));
        }
    }

    private static void bests() {
        GreatProbes x = Due.laid("way;hop 700 tell;way;hop 700 wrong;way;hop 300 tell;loss 99;way;hop 100 wrong;hop 60 silent;");
        Due.is("all as soon as checked", x.best(0), 0);
        Due.is("none alone", x.best(1), 2);
        Due.is("none of them", x.best(2), GreatProbes.NONE);
        Due.is("at base already: the lowest", x.best(3), 0);
        Due.is("no way more", x.best(4), GreatProbes.BAD);
        GreatProbes checked = Due.laid("way;hop 90 wrong;");
        Due.is("all are led astray", checked.soon(0, 0), GreatProbes.NONE);
        Due.that("checked are not", checked.soon(0, 1) > 0);
        Due.is("checked as soon as none", checked.soon(0, 1), checked.soon(0, 2));
        Due.is("so the lower of the two", checked.best(0), 1);
    }

    private static void counts() {
        GreatProbes x = Due.laid("way;hop 700 tell;way;hop 100 silent;way;hop 300 silent;base 30;top 800;age 50;believe all;");
        x.tick(5);
        x.send(2, 999);
        int low = Math.min(x.way(0, 0), Math.min(x.way(1, 0), x.way(2, 0)));
        int[] due = {3, 5, 30, 800, 50, 0, low, 0, 31, x.way(0, 8) + x.way(1, 8) + x.way(2, 8), 2, 90};
        for (int what = 0; what < due.length; what++) {
            Due.is("count(" + what + ")", x.count(what), due[what]);
        }
        GreatProbes done = Due.laid("way;hop 700 tell;way;way;hop 700 tell;");
        done.tick(7);
        Due.is("least low of all", done.count(6), Math.min(700, done.way(1, 0)));
        Due.is("ways that are done", done.count(7), 2);
        done.limit(2, 0, 100);
        done.tick(1);
        Due.is("least low of the last", done.count(6), 100);
        GreatProbes first = Due.laid("way;hop 70 tell;way;");
        first.tick(9);
        Due.is("least low of the first", first.count(6), 70);
        Due.is("the first is done", first.count(7), 1);
    }
}
