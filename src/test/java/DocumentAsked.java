/** Promises 13 to 22, sentence by sentence: a part of DocumentTest. */
final class DocumentAsked {
    private static final int BAD = GreatProbes.BAD, NO = GreatProbes.NO, NONE = GreatProbes.NONE;

    private DocumentAsked() {
    }

    static void walk() {
        way();
        hop();
        probe();
        padding();
        meets();
        draw();
        ahead();
        soon();
        best();
        count();
    }

    private static void way() {
        Due.passOver("## Promise 13: way `int way(int i, int what)`:");
        Due.next("Of a WAY: LOW (what = 0), HIGH (1), STATE (2), FAILS (3), MISSES (4), AGED (5), how often it has FALLEN (6), LETTERS sent (7), LOST (8),"
            + " believed told ones (9), PASSES (10), HOPS (11), LOSS (12). BAD.");
        GreatProbes x = Due.laid("way;way;hop 990 tell;hop 998 tell;hop 198 silent;base 196;top 200;");
        for (int n = 0; n < 4; n++) {
            Due.is("990 is told", x.send(1, 999), 992);
        }
        x.tick(1);
        x.limit(1, 2, 197);
        x.tick(2);
        Due.way("198 missed twice, 199 failed twice", x, 1, 198, 200, 0, 2, 2, 0, 0, 10, 4, 4, 197, 3, 0);
        x.limit(1, 2, 196);
        x.tick(1);
        Due.way("fallen, 197 failed", x, 1, 196, 197, 0, 1, 0, 0, 1, 12, 6, 4, 196, 3, 0);
        x.loss(1, 7);
        Due.is("loss", x.way(1, 12), 7);
        Due.way("way 0: aged 1", x, 0, 200, 200, 1, 0, 0, 1, 0, 7, 0, 0, 999, 0, 0);
        for (int what : new int[] {-1, 13, 14, Integer.MIN_VALUE, Integer.MAX_VALUE}) {
            Due.is("way(0, " + what + ")", x.way(0, what), BAD);
        }
        Due.is("way(2, 0)", x.way(2, 0), BAD);
        Due.is("way(-1, 0)", x.way(-1, 0), BAD);
    }

    private static void hop() {
        Due.passOver("## Promise 14: hop `int hop(int i, int h, int what)`:");
        Due.next("Of a HOP: LIMIT (what = 0), KIND (1). BAD.");
        GreatProbes x = Due.laid("way;hop 101 tell;hop 102 wrong;way;hop 103 old;hop 104 silent;hop 105 tell;");
        int[][] limits = {{101, 102}, {103, 104, 105}};
        int[][] kinds = {{0, 1}, {2, 3, 0}};
        for (int i = 0; i < 2; i++) {
            for (int h = 0; h < limits[i].length; h++) {
                Due.is("limit of " + h + " of " + i, x.hop(i, h, 0), limits[i][h]);
                Due.is("kind of " + h + " of " + i, x.hop(i, h, 1), kinds[i][h]);
            }
            Due.is("none behind", x.hop(i, limits[i].length, 0), BAD);
            Due.is("none ahead", x.hop(i, -1, 1), BAD);
        }
        Due.is("hop(0, 0, 2)", x.hop(0, 0, 2), BAD);
        Due.is("hop(0, 0, -1)", x.hop(0, 0, -1), BAD);
        Due.is("hop(2, 0, 0)", x.hop(2, 0, 0), BAD);
    }

    private static void probe() {
        Due.passOver("## Promise 15: probe `int probe(int i)`:");
        Due.next("SIZE that a PROBE of a WAY has now. BAD; NONE: LOW is HIGH.");
        GreatProbes x = Due.laid("way;hop 197 silent;way;base 196;top 200;");
        int[] first = {198, 198, 198, 197, NONE, NONE};
        int[] second = {198, 199, 200, NONE, NONE, NONE};
        for (int n = 0; n < first.length; n++) {
            Due.is("way 0 behind " + n, x.probe(0), first[n]);
            Due.is("way 1 behind " + n, x.probe(1), second[n]);
            x.tick(1);
        }
        Due.is("no way", x.probe(2), BAD);
        Due.is("no way", x.probe(-1), BAD);
    }

    private static void padding() {
        Due.passOver("## Promise 16: padding `int padding(int i, int c)`:");
        Due.next("PADDING that a PROBE of a WAY needs now for c bytes (0 to 999): its SIZE less c. BAD; NO: there are more bytes than that;"
            + " NONE: LOW is HIGH (there is no SIZE then, so never NO).");
        GreatProbes x = Due.laid("way;hop 197 tell;way;base 196;top 200;");
        int[][] due = {{0, 198}, {50, 148}, {197, 1}, {198, 0}, {199, NO}, {999, NO}, {1000, BAD}, {-1, BAD}};
        for (int[] row : due) {
            Due.is("padding(0, " + row[0] + ")", x.padding(0, row[0]), row[1]);
        }
        Due.is("no way", x.padding(2, 0), BAD);
        x.tick(1);
        Due.is("197 now", x.padding(0, 190), 7);
        Due.is("199 now", x.padding(1, 190), 9);
        x.tick(1);
        int[][] done = {{0, NONE}, {197, NONE}, {198, NONE}, {999, NONE}, {1000, BAD}, {-1, BAD}};
        for (int[] row : done) {
            Due.is("done: padding(0, " + row[0] + ")", x.padding(0, row[0]), row[1]);
        }
    }

    private static void meets() {
        Due.passOver("## Promise 17: meets `int meets(int i, int size, int what)`:");
        Due.next("What a LETTER of a SIZE (1 to 999) would meet, were it not LOST by LOSS: as by send() (what = 0), the HOP that drops it (1; NONE). BAD.");
        GreatProbes x = Due.laid("way;way;hop 800 tell;hop 600 wrong;hop 400 silent;hop 200 old;loss 99;believe none;");
        int[][] due = {{1, 0, NONE}, {200, 0, NONE}, {201, 102, 3}, {400, 202, 3}, {401, 1, 2}, {600, 1, 2}, {601, 562, 1}, {800, 562, 1}, {801, 802, 0},
            {999, 802, 0}};
        for (int[] row : due) {
            Due.is("meets(1, " + row[0] + ", 0)", x.meets(1, row[0], 0), row[1]);
            Due.is("meets(1, " + row[0] + ", 1)", x.meets(1, row[0], 1), row[2]);
        }
        Due.is("without hops", x.meets(0, 999, 0), 0);
        Due.is("without hops", x.meets(0, 999, 1), NONE);
        Due.is("nothing was sent", x.count(8), 0);
        Due.is("size 0", x.meets(0, 0, 0), BAD);
        Due.is("size 1000", x.meets(0, 1000, 1), BAD);
        Due.is("what 2", x.meets(0, 60, 2), BAD);
        Due.is("what -1", x.meets(0, 60, -1), BAD);
        Due.is("no way", x.meets(2, 60, 0), BAD);
        x.loss(1, 0);
        for (int[] row : due) {
            Due.is("send(1, " + row[0] + ")", x.send(1, row[0]), row[1]);
        }
    }

    private static void draw() {
        Due.passOver("## Promise 18: draw `int draw(int i, int k)`:");
        Due.next("DRAW k (0 to 9999) of a WAY. BAD.");
        GreatProbes x = Due.laid("way;way;way;");
        Due.is("draw(0, 0)", x.draw(0, 0), 1);
        Due.is("draw(1, 0)", x.draw(1, 0), 41487);
        Due.is("draw(1, 3)", x.draw(1, 3), 1564);
        Due.is("draw(2, 9999)", x.draw(2, 9999), 59188);
        x.tick(4);
        Due.is("by its number, not by what was sent", x.draw(1, 3), 1564);
        Due.is("k 10000", x.draw(0, 10000), BAD);
        Due.is("k -1", x.draw(0, -1), BAD);
        Due.is("no way", x.draw(3, 0), BAD);
        Due.is("no way", x.draw(-1, 0), BAD);
    }

    private static void ahead() {
        Due.passOver("## Promise 19: ahead `int ahead(int n, int i, int what)`:");
        Due.next("AHEAD n TICKS: of a WAY LOW (what = 0), HIGH (1), STATE (2), FALLEN in them (3), LETTERS LOST in them (4). BAD.");
        GreatProbes x = Due.laid("way;hop 197 tell;way;hop 999 silent;base 196;top 200;");
        x.tick(3);
        x.limit(1, 0, 199);
        x.tick(3);
        Due.way("fallen once", x, 1, 198, 199, 0, 0, 0, 0, 1, 10, 3, 0);
        x.limit(1, 0, 197);
        // 198 is missed and 199 fails; again; 198 is missed and falls to 196 and 197, where 197 arrives
        int[][] due = {{198, 199, 0, 0, 2}, {198, 199, 0, 0, 4}, {197, 197, 1, 1, 5}, {197, 197, 1, 1, 5}};
        for (int n = 1; n <= due.length; n++) {
            for (int what = 0; what < 5; what++) {
                Due.is("ahead(" + n + ", 1, " + what + ")", x.ahead(n, 1, what), due[n - 1][what]);
            }
            Due.is("ahead(" + n + ", 0, 0)", x.ahead(n, 0, 0), 197);
            Due.is("ahead(" + n + ", 0, 4)", x.ahead(n, 0, 4), 0);
        }
        Due.is("no ticks", x.ahead(0, 0, 0), BAD);
        Due.is("100 ticks", x.ahead(100, 0, 0), BAD);
        Due.is("no way", x.ahead(1, 2, 0), BAD);
        Due.is("what 5", x.ahead(1, 0, 5), BAD);
        Due.is("what -1", x.ahead(1, 0, -1), BAD);
        x.tick(3);
        Due.way("as it was told", x, 1, 197, 197, 1, 0, 0, 0, 2, 16, 8, 0);
    }

    private static void soon() {
        Due.passOver("## Promise 20: soon `int soon(int i, int m)`:");
        Due.next("SOON of a WAY, were m believed (0 all, 1 checked, 2 none) from now on. BAD; NONE.");
        GreatProbes x = Due.laid("way;hop 197 old;way;hop 197 tell;way;hop 39 wrong;base 20;top 200;");
        // way 2 tells 0: all believe it and stay at 20; by the others 110, 65 and 42 are lost, thrice each, then 31, 36 and 39 arrive
        int[][] due = {{NONE, NONE, 10}, {8, 8, 10}, {NONE, 12, 12}};
        for (int i = 0; i < 3; i++) {
            for (int m = 0; m < 3; m++) {
                Due.is("soon(" + i + ", " + m + ")", x.soon(i, m), due[i][m]);
            }
        }
        Due.is("what is believed stays", x.count(5), 1);
        x.believe(2);
        Due.is("m, not what is believed", x.soon(0, 1), NONE);
        x.tick(4);
        Due.is("from now on", x.soon(0, 2), 6);
        Due.is("from now on", x.soon(1, 0), 4);
        Due.is("m 3", x.soon(0, 3), BAD);
        Due.is("m -1", x.soon(0, -1), BAD);
        Due.is("no way", x.soon(3, 0), BAD);
    }

    private static void best() {
        Due.passOver("## Promise 21: best `int best(int i)`:");
        Due.next("The belief by which SOON of a WAY is least, of several the lowest. BAD; NONE.");
        GreatProbes x = Due.laid("way;hop 197 old;way;hop 197 tell;way;hop 39 wrong;way;hop 197 old;hop 35 wrong;loss 99;base 20;top 200;");
        Due.is("none alone", x.best(0), 2);
        Due.is("all and checked", x.best(1), 0);
        Due.is("checked and none", x.best(2), 1);
        Due.is("none of them", x.best(3), NONE);
        Due.is("no way", x.best(4), BAD);
        Due.is("no way", x.best(-1), BAD);
        x.believe(0);
        Due.is("whatever is believed", x.best(2), 1);
        // 212 is told 204, then 200, 202, 203, 204; by none 212 is lost thrice, then 204
        GreatProbes later = Due.laid("way;hop 204 tell;base 196;top 227;");
        Due.is("all: at the fifth", later.soon(0, 0), 5);
        Due.is("none: at the fourth", later.soon(0, 2), 4);
        Due.is("the least, not the lowest", later.best(0), 2);
        GreatProbes all = Due.laid("way;hop 197 silent;way;hop 20 silent;base 20;top 200;");
        Due.is("all three", all.best(0), 0);
        Due.is("all three at once", all.best(1), 0);
        Due.is("at the 99th", Due.laid("way;hop 100 silent;loss 25;draws 48;").best(0), 0);
        Due.is("at the 100th", Due.laid("way;hop 100 silent;loss 30;draws 14;").best(0), NONE);
    }

    private static void count() {
        Due.passOver("## Promise 22: count `int count(int what)`:");
        Due.next("How many: 0 WAYS, 1 TICKS, 2 BASE, 3 TOP, 4 AGE, 5 what is believed, 6 the least LOW of all WAYS, 7 WAYS that are DONE, 8 LETTERS sent, 9 LOST,"
            + " 10 changes that can be UNDONE, 11 letters of THE TEXT. BAD.");
        String text = "way;hop 199 silent;way;hop 197 tell;way;base 196;top 200;age 33;";
        GreatProbes x = Due.laid(text);
        x.tick(4);
        x.believe(0);
        x.send(0, 200);
        x.send(0, 200);
        x.send(2, 200);
        int[] due = {3, 4, 196, 200, 33, 0, 197, 2, 24, 4, 4, text.length()};
        for (int what = 0; what < due.length; what++) {
            Due.is("count(" + what + ")", x.count(what), due[what]);
        }
        x.tick(1);
        x.undo();
        x.undo();
        Due.is("changes that can be undone", x.count(10), 2);
        Due.is("letters sent", x.count(8), 23);
        Due.is("lost", x.count(9), 4);
        Due.is("ticks", x.count(1), 4);
        x.tick(1);
        Due.is("all are done", x.count(7), 3);
        x.limit(0, 0, 196);
        x.believe(1);
        x.kind(0, 0, 0);
        x.tick(1);
        Due.is("the least low", x.count(6), 196);
        for (int what : new int[] {-1, 12, 13, Integer.MIN_VALUE, Integer.MAX_VALUE}) {
            Due.is("count(" + what + ")", x.count(what), BAD);
        }
        GreatProbes four = Due.laid("way;way;way;way;hop 199 silent;base 200;top 200;");
        four.tick(2);
        int[] all = {4, 2, 200, 200, 20, 1, 200, 4, 8, 2, 1, 48};
        for (int what = 0; what < all.length; what++) {
            Due.is("of four ways: count(" + what + ")", four.count(what), all[what]);
        }
    }
}
