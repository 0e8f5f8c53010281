/** Promises 2 to 5: write, wipe, fault, lay. */
public final class TextTest {
    public static void main(String[] args) {
        letters();
        fullText();
        goodTexts();
        faults();
        laying();
        refusedLaying();
        lastOneCounts();
        Due.end();
    }

    private static void letters() {
        GreatProbes x = new GreatProbes();
        int[] bad = {31, 127, 0, -1, 10, 128, 256 + 'w', 65536 + 'w', Integer.MAX_VALUE, Integer.MIN_VALUE};
        for (int letter : bad) {
            Due.is("write(" + letter + ")", x.write(letter), GreatProbes.BAD);
        }
        Due.is("letters behind bad ones", x.count(11), 0);
        Due.is("write(32)", x.write(32), 1);
        Due.is("write(126)", x.write(126), 2);
        Due.is("letters", x.count(11), 2);
        Due.is("wipe", x.wipe(), 2);
        Due.is("wipe again", x.wipe(), 0);
        Due.is("letters behind wipe", x.count(11), 0);
    }

    private static void fullText() {
        GreatProbes x = new GreatProbes();
        String full = "way;" + "age 1;".repeat(38) + "loss 99;";
        Due.is("letters of the full text", full.length(), 240);
        Due.write(x, full);
        Due.is("write beyond", x.write('w'), GreatProbes.FULL);
        Due.is("a bad letter beyond", x.write(31), GreatProbes.BAD);
        Due.is("letters", x.count(11), 240);
        Due.is("fault of a full text", x.fault(), GreatProbes.NONE);
        Due.is("lay of a full text", x.lay(), 1);
        Due.is("its last item", x.way(0, 12), 99);
        Due.is("the text stays full", x.write('w'), GreatProbes.FULL);
        Due.is("wipe", x.wipe(), 240);
        Due.is("write behind wipe", x.write('w'), 1);
        faultAt("way;" + "age 1;".repeat(38) + "loss 999", 232);
        faultAt("way;" + "age 1;".repeat(38) + "way;hop ", 236);
    }

    private static void goodTexts() {
        String[] good = {
            "", "way;", "base 20;", "base 200;", "base 0060;", "top 200;", "top 999;", "top 0999;", "age 1;", "age 99;",
            "age 0001;", "believe all;", "believe checked;", "believe none;", "draws 0;", "draws 9999;", "draws 0000;",
            "way;way;way;way;", "way;hop 20 tell;", "way;hop 999 wrong;", "way;hop 0020 old;", "way;hop 500 silent;",
            "way;loss 0;loss 99;loss 0099;", "way;way;loss 5;",
            "way;hop 20 tell;hop 20 tell;hop 20 tell;hop 20 tell;hop 20 tell;hop 20 tell;way;hop 20 tell;"};
        for (String text : good) {
            GreatProbes x = new GreatProbes();
            Due.write(x, text);
            Due.is("fault of " + text, x.fault(), GreatProbes.NONE);
        }
    }

    private static void faults() {
        String[] alone = {
            "way", "w", ";", " ", " way;", "way ;", "way 1;", "Way;", "ways;", "wa;", "way,", "hop 20 tell;", "loss 1;",
            "base;", "base ;", "base  60;", "base 60 ;", "base 60", "base 19;", "base 201;", "base 00060;", "base -60;",
            "base +60;", "base 6o;", "base60;", "base 60 60;", "base x;", "top 199;", "top 1000;", "top ;", "top 20000;",
            "age 0;", "age 100;", "age a;", "believe;", "believe ;", "believe nothing;", "believe al;", "believe alls;",
            "believe 0;", "believe all ;", "believe  all;", "draws;", "draws 10000;", "draws -1;", "draws ;", "draw 1;", "kind 1;"};
        for (String text : alone) {
            faultAt(text, 0);
            faultAt("way;" + text, text.equals("hop 20 tell;") || text.equals("loss 1;") ? GreatProbes.NONE : 4);
        }
        String[] ofWay = {
            "hop;", "hop 20;", "hop 20 ;", "hop 19 tell;", "hop 1000 tell;", "hop 20tell;", "hop 20  tell;", "hop  20 tell;",
            "hop 20 tell ;", "hop 20 tells;", "hop 20 tel;", "hop 20 Tell;", "hop tell 20;", "hop 00020 tell;", "hop 20 olds;",
            "hop 20 silence;", "hop 20 wron;", "hop 20 0;", "hop 20 tell", "hop 20 tell hop 20 tell;", "hop  tell;", "hop 20,tell;",
            "loss 100;", "loss;", "loss ;", "loss 00001;", "loss x;", "loss 1 ;", "loss 1 1;", "loss 1", "loss -1;"};
        for (String text : ofWay) {
            faultAt("way;" + text, 4);
            faultAt("way;age 5;" + text + "way;", 10);
        }
        faultAt("way;way;way;way;way;", 16);
        faultAt("way;hop 20 tell;hop 20 tell;hop 20 tell;hop 20 tell;hop 20 tell;hop 20 tell;hop 20 tell;", 76);
        faultAt("way;hop 20 tell;hop 20 tell;hop 20 tell;hop 20 tell;hop 20 tell;hop 20 tell;loss 3;hop 20 tell;", 83);
        faultAt("age 5;loss 4;way;", 6);
        faultAt("age 5;hop 20 tell;way;", 6);
        faultAt("way;;way;", 4);
        faultAt("way;x;base 1;", 4);
        faultAt("way; way;", 4);
    }

    private static void faultAt(String text, int place) {
        GreatProbes x = new GreatProbes();
        Due.write(x, text);
        String before = Due.picture(x);
        Due.is("fault of " + text, x.fault(), place);
        if (place != GreatProbes.NONE) {
            Due.is("lay of " + text, x.lay(), GreatProbes.NO);
            Due.unchanged("lay of " + text, x, before);
        }
    }

    private static void laying() {
        GreatProbes x = new GreatProbes();
        x.tick(5);
        x.send(0, 100);
        Due.write(x, "way;hop 20 silent;hop 999 old;way;loss 7;base 20;top 200;age 99;believe none;draws 12;");
        int length = x.count(11);
        Due.is("lay", x.lay(), 2);
        int[] due = {2, 0, 20, 200, 99, 2, 20, 0, 0, 0, 0, length};
        for (int what = 0; what < due.length; what++) {
            Due.is("laid: count(" + what + ")", x.count(what), due[what]);
        }
        Due.way("laid", x, 0, 20, 200, 0, 0, 0, 0, 0, 0, 0, 0, 20, 2, 0);
        Due.way("laid", x, 1, 20, 200, 0, 0, 0, 0, 0, 0, 0, 0, 999, 0, 7);
        Due.is("way(2, 0)", x.way(2, 0), GreatProbes.BAD);
        Due.is("hop(0, 0, 0)", x.hop(0, 0, 0), 20);
        Due.is("hop(0, 0, 1)", x.hop(0, 0, 1), 3);
        Due.is("hop(0, 1, 0)", x.hop(0, 1, 0), 999);
        Due.is("hop(0, 1, 1)", x.hop(0, 1, 1), 2);
        Due.is("hop(1, 0, 0)", x.hop(1, 0, 0), GreatProbes.BAD);
        Due.is("undo behind lay", x.undo(), GreatProbes.NO);
        x.tick(3);
        Due.is("the text stays: lay again", x.lay(), 2);
        Due.is("ticks", x.count(1), 0);
        Due.is("sent", x.count(8), 0);
        Due.is("undo", x.undo(), GreatProbes.NO);
        x.wipe();
        Due.is("the ways stay when the text is wiped", x.count(0), 2);
        Due.write(x, "way;way;way;way;");
        Due.is("four ways", x.lay(), 4);
        Due.is("the kind of belief without one", x.count(5), 1);
        Due.is("base without one", x.count(2), 60);
        Due.is("top without one", x.count(3), 900);
        Due.is("age without one", x.count(4), 20);
        Due.is("draws without one", x.draw(0, 0), 1);
        Due.is("hops of an earlier text are gone", x.way(0, 11), 0);
        Due.is("loss of an earlier text is gone", x.way(1, 12), 0);
    }

    private static void refusedLaying() {
        String[] texts = {"", "base 100;", "age 3;believe all;", "way;hop 1 tell;", "way"};
        for (String text : texts) {
            GreatProbes x = new GreatProbes();
            x.tick(4);
            x.limit(0, 0, 500);
            Due.write(x, text);
            String before = Due.picture(x);
            Due.is("lay of '" + text + "'", x.lay(), GreatProbes.NO);
            Due.unchanged("lay of '" + text + "'", x, before);
            Due.is("undo behind a refused lay", x.undo(), 1);
            Due.is("undone", x.hop(0, 0, 0), 700);
        }
    }

    private static void lastOneCounts() {
        GreatProbes x = Due.laid("base 100;top 300;age 3;believe all;draws 5;way;loss 4;way;loss 5;loss 6;"
            + "base 20;top 999;age 4;believe none;draws 1;");
        int[] due = {2, 0, 20, 999, 4, 2, 20};
        for (int what = 0; what < due.length; what++) {
            Due.is("last one: count(" + what + ")", x.count(what), due[what]);
        }
        Due.is("loss of way 0", x.way(0, 12), 4);
        Due.is("loss of way 1", x.way(1, 12), 6);
        Due.is("high by the last top", x.way(0, 1), 999);
        Due.is("draws 1", x.draw(0, 0), 7920 * 7920 % 65521);
        GreatProbes narrow = Due.laid("way;way;base 200;top 200;");
        Due.is("ways that are done at first", narrow.count(7), 2);
        Due.way("base is top", narrow, 1, 200, 200, 1, 0, 0, 0, 0, 0);
    }
}
