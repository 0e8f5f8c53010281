/** The terms of ways, hops and THE TEXT, sentence by sentence: a part of DocumentTest. */
final class DocumentText {
    private static final int BAD = GreatProbes.BAD, NO = GreatProbes.NO, NONE = GreatProbes.NONE;

    private DocumentText() {
    }

    static void walk() {
        Due.passOver("``` ## Terms");
        waysAndHops();
        limitAndKind();
        Due.passOver("```text");
        letters();
        itemsAndMarks();
        wordsAndBlanks();
        figures();
        wayItem();
        hopItem();
        lossItem();
        baseItem();
        topItem();
        ageItem();
        believeItem();
        drawsItem();
        lastCounts();
        firstFault();
        laid();
        draws();
        Due.passOver("```");
    }

    private static int fault(String text) {
        return Due.written(text).fault();
    }

    private static void faultAt(int place, String... texts) {
        for (String text : texts) {
            Due.is("fault of " + text, fault(text), place);
            Due.is("lay of " + text, Due.written(text).lay(), NO);
        }
    }

    private static void good(String... texts) {
        for (String text : texts) {
            Due.is("fault of " + text, fault(text), NONE);
        }
    }

    private static void waysAndHops() {
        Due.next("(1 to 4), each of HOPS 0, 1, .. (6 at most), with a LOSS (0 to 99 of a hundred).");
        for (int n = 1; n <= 4; n++) {
            GreatProbes x = Due.written("way;".repeat(n));
            Due.is(n + " ways", x.lay(), n);
            Due.is("the last of " + n, x.way(n - 1, 11), 0);
            Due.is("none behind " + n, x.way(n, 11), BAD);
        }
        faultAt(16, "way;way;way;way;way;");
        for (int n = 1; n <= 6; n++) {
            GreatProbes x = Due.laid("way;way;" + "hop 30 old;".repeat(n));
            Due.is(n + " hops", x.way(1, 11), n);
            Due.is("the last of " + n, x.hop(1, n - 1, 0), 30);
            Due.is("none behind " + n, x.hop(1, n, 0), BAD);
        }
        faultAt(8 + 66, "way;way;" + "hop 30 old;".repeat(7));
        GreatProbes x = Due.laid("way;way;");
        Due.is("without a loss", x.loss(1, 99), 0);
        Due.is("no loss of 100", x.loss(1, 100), BAD);
        // rests by a hundred of the draws of way 1: 87, 47, 99, 64, 63, 33
        int[] due = {1, 1, 0, 1, 1, 1};
        for (int k = 0; k < due.length; k++) {
            Due.is("99 of a hundred: letter " + k, x.send(1, 5), due[k]);
        }
        Due.is("back", x.loss(1, 0), 99);
        Due.is("none of a hundred", x.send(1, 5), 0);
    }

    private static void limitAndKind() {
        Due.next("A HOP has a LIMIT (20 to 999) and a KIND: 0 TELL, 1 WRONG, 2 OLD, 3 SILENT.");
        GreatProbes x = Due.laid("way;hop 20 tell;hop 999 wrong;hop 21 old;hop 998 silent;");
        int[] limits = {20, 999, 21, 998};
        for (int h = 0; h < 4; h++) {
            Due.is("limit of hop " + h, x.hop(0, h, 0), limits[h]);
            Due.is("kind of hop " + h, x.hop(0, h, 1), h);
        }
        int[] due = {102, 62, 103, 1};
        GreatProbes one = Due.laid("way;hop 100 silent;");
        for (int k = 0; k < 4; k++) {
            one.kind(0, 0, k);
            Due.is("kind " + k, one.meets(0, 202, 0), due[k]);
        }
        Due.is("no kind 4", one.kind(0, 0, 4), BAD);
        Due.is("no limit of 19", one.limit(0, 0, 19), BAD);
        Due.is("no limit of 1000", one.limit(0, 0, 1000), BAD);
    }

    private static void letters() {
        Due.next("THE TEXT is letters (240 at most).");
        String most = "way;loss 0077;" + "top 300;".repeat(28) + ";;";
        GreatProbes x = Due.written(most);
        Due.is("240 letters", x.count(11), 240);
        Due.is("its fault", x.fault(), 238);
        Due.is("no 241st", x.write(';'), GreatProbes.FULL);
        Due.is("240 letters", x.count(11), 240);
        Due.is("one of 239 more", Due.written(most.substring(1)).write('x'), 240);
        faultAt(232, "way;" + "top 300;".repeat(28) + "way;loss 777", "way;" + "top 300;".repeat(28) + "way;loss  77");
    }

    private static void itemsAndMarks() {
        Due.next("A TEXT is ITEMS one behind the other, a ; behind each;");
        good("", "way;", "top 300;way;hop 30 old;loss 3;", "age 5;age 5;age 5;");
        faultAt(0, "way", "top 300", ";", ";way;", "way,", "top 300way;", "way.way;");
        faultAt(4, "way;way", "way;;", "way;hop 30 old", "way;loss 3", "way;age 5,age 5;", "way; way;");
        Due.is("lay of two", Due.written("way;top 300;").lay(), 1);
    }

    private static void wordsAndBlanks() {
        Due.next("words are as told, just one blank between two;");
        faultAt(0, "Way;", "wayy;", "way ;", " way;", "top  300;", "top300;", "top 300 ;", "believe  none;", "believenone;");
        faultAt(0, "TOP 300;", "topp 300;", "to 300;", "bass 60;", "aged 5;", "believing all;", "draws1;", "draw 1;", "believe nones;", "believe No;");
        faultAt(4, "way;hop  30 old;", "way;hop 30  old;", "way;hop30 old;", "way;hop 30old;", "way;hop 30 old ;", "way;hop 30 olden;", "way;hop 30 ol;",
            "way;loss  3;", "way;loss3;", "way;loss 3 ;", "way;Loss 3;", "way;hop 30 OLD;", "way;hops 30 old;");
        good("way;hop 30 old;", "believe none;", "top 300;");
    }

    private static void figures() {
        Due.next("numbers have one to four figures:");
        good("age 5;", "age 05;", "age 005;", "age 0005;", "draws 9876;", "way;hop 030 old;", "way;hop 0030 old;", "way;loss 0003;");
        faultAt(0, "age 00005;", "draws 00000;", "draws 98765;", "age ;", "age five;", "age -5;", "age +5;", "age 5.;", "age 5a;", "top 00300;", "base 00060;");
        faultAt(4, "way;hop 00030 old;", "way;hop  old;", "way;loss 00003;", "way;loss ;", "way;hop 3o old;");
        GreatProbes x = Due.laid("way;hop 0123 old;loss 0045;base 0067;top 0890;age 0012;draws 0003;");
        Due.is("0123", x.hop(0, 0, 0), 123);
        Due.is("0045", x.way(0, 12), 45);
        Due.is("0067", x.count(2), 67);
        Due.is("0890", x.count(3), 890);
        Due.is("0012", x.count(4), 12);
        Due.is("0003", x.draw(0, 0), 44670);
    }

    private static void wayItem() {
        Due.next("way the next WAY");
        GreatProbes x = Due.laid("way;loss 1;way;hop 30 old;loss 2;way;loss 3;");
        int[] hops = {0, 1, 0};
        for (int i = 0; i < 3; i++) {
            Due.is("loss of way " + i, x.way(i, 12), i + 1);
            Due.is("hops of way " + i, x.way(i, 11), hops[i]);
        }
        Due.is("ways", x.count(0), 3);
    }

    private static void hopItem() {
        Due.next("hop L K the next HOP of the latest WAY: LIMIT L, K is tell, wrong, old or silent");
        GreatProbes x = Due.laid("way;hop 31 silent;hop 32 tell;way;hop 33 old;age 9;hop 34 wrong;");
        int[][] due = {{0, 0, 31, 3}, {0, 1, 32, 0}, {1, 0, 33, 2}, {1, 1, 34, 1}};
        for (int[] row : due) {
            Due.is("limit", x.hop(row[0], row[1], 0), row[2]);
            Due.is("kind", x.hop(row[0], row[1], 1), row[3]);
        }
        good("way;hop 20 tell;", "way;hop 999 silent;");
        faultAt(4, "way;hop 19 tell;", "way;hop 1000 tell;", "way;hop 30 none;", "way;hop 30;", "way;hop 30 ;", "way;hop tell;", "way;hop old 30;", "way;hop 30 2;");
    }

    private static void lossItem() {
        Due.next("loss Q LOSS of the latest WAY (0 without)");
        GreatProbes x = Due.laid("way;way;loss 42;way;hop 30 old;");
        int[] due = {0, 42, 0};
        for (int i = 0; i < 3; i++) {
            Due.is("loss of way " + i, x.way(i, 12), due[i]);
        }
        good("way;loss 0;", "way;loss 99;");
        faultAt(4, "way;loss 100;", "way;loss all;", "way;loss;");
    }

    private static void baseItem() {
        Due.next("base B BASE (20 to 200; 60 without)");
        Due.is("20", Due.laid("base 20;way;").count(2), 20);
        Due.is("200", Due.laid("way;base 200;").count(2), 200);
        Due.is("without", Due.laid("way;").count(2), 60);
        Due.is("low", Due.laid("way;base 77;").way(0, 0), 77);
        faultAt(0, "base 19;way;", "base 201;way;", "base;", "base all;");
    }

    private static void topItem() {
        Due.next("top C TOP (200 to 999; 900 without)");
        Due.is("200", Due.laid("top 200;way;").count(3), 200);
        Due.is("999", Due.laid("way;top 999;").count(3), 999);
        Due.is("without", Due.laid("way;").count(3), 900);
        Due.is("high", Due.laid("way;top 777;").way(0, 1), 777);
        faultAt(0, "top 199;way;", "top 1000;way;", "top;", "top all;");
    }

    private static void ageItem() {
        Due.next("age G AGE (1 to 99; 20 without)");
        Due.is("1", Due.laid("age 1;way;").count(4), 1);
        Due.is("99", Due.laid("way;age 99;").count(4), 99);
        Due.is("without", Due.laid("way;").count(4), 20);
        faultAt(0, "age 0;way;", "age 100;way;", "age;", "age all;");
    }

    private static void believeItem() {
        Due.next("believe M M is all, checked or none (checked without)");
        String[] words = {"all", "checked", "none"};
        for (int m = 0; m < 3; m++) {
            Due.is(words[m], Due.laid("way;believe " + words[m] + ";").count(5), m);
        }
        Due.is("without", Due.laid("way;").count(5), 1);
        faultAt(0, "believe;", "believe ;", "believe 1;", "believe tell;", "believe al;", "believe all checked;");
    }

    private static void drawsItem() {
        Due.next("draws Z DRAWS by Z (0 to 9999; 0 without)");
        Due.is("without", Due.laid("way;").draw(0, 0), 1);
        Due.is("0", Due.laid("way;draws 0;").draw(0, 0), 1);
        Due.is("7", Due.laid("draws 7;way;").draw(0, 0), 58977);
        Due.is("9999", Due.laid("way;draws 9999;").draw(0, 0), 51303);
        faultAt(0, "draws 10000;", "draws;", "draws -1;", "draws all;");
        GreatProbes x = Due.laid("way;draws 7;loss 7;base 77;top 777;age 7;believe all;hop 77 old;");
        x.wipe();
        Due.write(x, "way;");
        x.lay();
        Due.is("without, behind a text with it", x.draw(0, 0), 1);
        int[] due = {1, 0, 60, 900, 20, 1, 60};
        for (int what = 0; what < due.length; what++) {
            Due.is("without all: count(" + what + ")", x.count(what), due[what]);
        }
    }

    private static void lastCounts() {
        Due.next("Of several loss of a WAY, base, top, .. the last one counts.");
        GreatProbes x = Due.laid("believe none;way;loss 5;base 70;top 300;age 7;draws 3;loss 6;way;loss 8;base 71;top 301;age 8;draws 7;believe all;");
        Due.is("loss of way 0", x.way(0, 12), 6);
        Due.is("loss of way 1", x.way(1, 12), 8);
        int[] due = {71, 301, 8, 0};
        for (int n = 0; n < 4; n++) {
            Due.is("count(" + (n + 2) + ")", x.count(n + 2), due[n]);
        }
        Due.is("low of way 0", x.way(0, 0), 71);
        Due.is("high of way 0", x.way(0, 1), 301);
        Due.is("draw", x.draw(0, 0), 58977);
    }

    private static void firstFault() {
        Due.next("FAULT: the place (from 0 on) of the first letter of the first ITEM that is not so (hop, loss without a way ahead, one too many).");
        faultAt(0, "x", "hop 30 old;", "loss 3;", "hop 30 old;way;", "loss 3;way;", "way:way;");
        faultAt(4, "way;hop 30 older;loss 100;", "way;x;y;", "way;top 199;top 200;");
        faultAt(6, "age 5;hop 30 old;way;", "age 5;loss 3;way;", "age 5;age 0;way;");
        faultAt(15, "way;hop 30 old;hop 30 odd;hop 30 old;");
        faultAt(22, "way;age 5;way;way;way;way;");
        faultAt(77, "way;" + "hop 30 old;".repeat(6) + "loss 3;hop 30 old;way;");
        good("way;hop 30 old;way;" + "hop 30 old;".repeat(6));
    }

    private static void laid() {
        Due.next("LAID is a TEXT without FAULT with a WAY (NO else; at first way;hop 700 tell;hop 333 silent;way;hop 500 wrong;hop 900 tell;loss 10;"
            + "way;hop 640 old;).");
        for (String text : new String[] {"", "top 300;", "age 5;base 20;believe all;draws 1;", "way;x", "way", "way;way;way;way;way;"}) {
            GreatProbes x = Due.written(text);
            Due.is("lay of " + text, x.lay(), NO);
            Due.is("the ways of the first text", x.count(0), 3);
        }
        Due.is("lay", Due.written("way;age 5;").lay(), 1);
        GreatProbes x = new GreatProbes();
        int[][] hops = {{0, 0, 700, 0}, {0, 1, 333, 3}, {1, 0, 500, 1}, {1, 1, 900, 0}, {2, 0, 640, 2}};
        for (int[] row : hops) {
            Due.is("limit at first", x.hop(row[0], row[1], 0), row[2]);
            Due.is("kind at first", x.hop(row[0], row[1], 1), row[3]);
        }
        int[] losses = {0, 10, 0};
        int[] count = {2, 2, 1};
        for (int i = 0; i < 3; i++) {
            Due.is("loss at first", x.way(i, 12), losses[i]);
            Due.is("hops at first", x.way(i, 11), count[i]);
        }
        Due.is("ways at first", x.count(0), 3);
    }

    private static void draws() {
        Due.next("DRAW k (0 on) of WAY i: (x times x) modulo 65521, x being 7919 Z, 6151 i, 3571 k and 1 together.");
        int[][] due = {{1, 48110, 47111, 62525, 28831, 11550}, {41487, 55447, 20299, 1564, 64763, 13333}};
        int[][] by7 = {{58977, 648, 24253, 64271, 55181, 62504}, {29140, 2183, 57160, 63029, 19790, 58485}};
        GreatProbes x = Due.laid("way;way;");
        GreatProbes y = Due.laid("way;way;draws 7;");
        for (int i = 0; i < 2; i++) {
            for (int k = 0; k < 6; k++) {
                Due.is("draw(" + i + ", " + k + ")", x.draw(i, k), due[i][k]);
                Due.is("draw(" + i + ", " + k + ") by 7", y.draw(i, k), by7[i][k]);
            }
        }
    }
}
