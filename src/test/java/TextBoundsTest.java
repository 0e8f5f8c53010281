/** The sentences on THE TEXT that name a bound, each with its last number taken and the first that is not: promises 1 to 5. */
public final class TextBoundsTest {
    private static final String FIRST =
        "way;hop 700 tell;hop 333 silent;way;hop 500 wrong;hop 900 tell;loss 10;way;hop 640 old;";
    private static final String SIX_HOPS = "hop 20 old;".repeat(6);

    public static void main(String[] args) {
        textIsEmptyAtFirst();
        lettersOfAscii();
        fullText();
        wiped();
        noFault();
        semicolonBehindEach();
        oneBlank();
        wordsAsTold();
        oneToFourFigures();
        ways();
        hops();
        limits();
        losses();
        bases();
        tops();
        ages();
        beliefs();
        drawsBy();
        withoutThem();
        lastOneCounts();
        firstFault();
        noWayAhead();
        oneTooMany();
        laidOrNo();
        laidAtFirst();
        nothingCanBeUndone();
        textStays();
        Due.end();
    }

    /** Without a fault, both alone and behind a way. */
    private static void good(String text) {
        Due.is("fault of " + text, Due.written(text).fault(), GreatProbes.NONE);
        Due.is("fault of way;" + text, Due.written("way;" + text).fault(), GreatProbes.NONE);
        Due.that("lay of way;" + text, Due.written("way;" + text).lay() > 0);
    }

    private static void faultAt(String text, int place) {
        Due.is("fault of " + text, Due.written(text).fault(), place);
        Due.refuses("lay of " + text, () -> changed(text), GreatProbes::lay, GreatProbes.NO);
    }

    /** One with changes that can be undone, on which a refused lay would show; behind a long text one, since calls are few. */
    private static GreatProbes changed(String text) {
        GreatProbes x = Due.written(text);
        x.tick(3);
        if (text.length() < 200) {
            x.believe(0);
        }
        return x;
    }

    /** A fault at its first letter, both alone and behind a way. */
    private static void bad(String text) {
        faultAt(text, 0);
        faultAt("way;" + text + "way;", 4);
    }

    /** The bounds of a number behind a word of its own: both ends, and one beyond each. */
    private static void bounds(String word, int least, int most) {
        good(word + " " + least + ";");
        good(word + " " + most + ";");
        if (least > 0) {
            bad(word + " " + (least - 1) + ";");
        }
        bad(word + " " + (most + 1) + ";");
        bad(word + " -1;");
        bad(word + ";");
        bad(word + " ;");
    }

    private static void textIsEmptyAtFirst() {
        Due.sentence("As told; THE TEXT is empty.");
        GreatProbes x = new GreatProbes();
        Due.is("letters", x.count(11), 0);
        Due.is("fault", x.fault(), GreatProbes.NONE);
        Due.is("wipe", x.wipe(), 0);
        Due.is("the first letter", x.write('w'), 1);
        Due.refuses("lay of a new one", GreatProbes::new, GreatProbes::lay, GreatProbes.NO);
    }

    private static void lettersOfAscii() {
        Due.sentence("A letter (32 to 126, as in ASCII) comes behind THE TEXT: how long it is. BAD;");
        for (int letter = 32; letter <= 126; letter++) {
            Due.is("write(" + letter + ")", new GreatProbes().write(letter), 1);
        }
        int[] beyond = {31, 127, 0, -1, 9, 10, 13, 128, 255, 256 + ';', 65536 + ';', 'w' - 65536, -'w', Integer.MAX_VALUE, Integer.MIN_VALUE};
        for (int letter : beyond) {
            Due.refuses("write(" + letter + ")", () -> changed("way;hop 30 old"), x -> x.write(letter), GreatProbes.BAD);
        }
        GreatProbes x = Due.written("way;");
        Due.is("behind the text", x.write('w'), 5);
        Due.is("behind the text", x.fault(), 4);
    }

    private static void fullText() {
        Due.sentence("THE TEXT is letters (240 at most).");
        String full = "way;" + "age 7;".repeat(38) + "loss 99;";
        Due.is("letters of it", full.length(), 240);
        GreatProbes x = Due.written(full);
        Due.is("letters", x.count(11), 240);
        Due.is("fault", x.fault(), GreatProbes.NONE);
        Due.is("lay", x.lay(), 1);
        Due.is("the last item", x.way(0, 12), 99);
        Due.is("still full", x.write(';'), GreatProbes.FULL);
        faultAt("way;" + "age 7;".repeat(38) + "loss 999", 232);
        faultAt("way;" + "age 7;".repeat(38) + "way;hop ", 236);
        faultAt("way;" + "age 7;".repeat(38) + "way;wayx", 236);
        faultAt("age 7;".repeat(40), GreatProbes.NONE);

        Due.sentence("FULL: it has 240.");
        Due.is("the last one taken", Due.written(full.substring(0, 239)).write(';'), 240);
        Due.refuses("write(';') beyond", () -> Due.written(full), y -> y.write(';'), GreatProbes.FULL);
        Due.refuses("write(32) beyond", () -> Due.written(full), y -> y.write(32), GreatProbes.FULL);
    }

    private static void wiped() {
        Due.sentence("THE TEXT is empty: how long it was.");
        GreatProbes full = Due.written("a".repeat(240));
        Due.is("wipe of a full one", full.wipe(), 240);
        Due.is("letters", full.count(11), 0);
        Due.is("room again", full.write('w'), 1);
        GreatProbes x = Due.written("way;");
        Due.is("wipe", x.wipe(), 4);
        Due.is("fault of nothing", x.fault(), GreatProbes.NONE);
        Due.is("lay of nothing", x.lay(), GreatProbes.NO);
        Due.is("wipe of an empty one", x.wipe(), 0);
        Due.is("one letter", x.write('w'), 1);
        Due.is("the wiped ones do not come back", x.fault(), 0);
        Due.is("wipe of one", x.wipe(), 1);
    }

    private static void noFault() {
        Due.sentence("FAULT of THE TEXT. NONE.");
        Due.is("fault of the empty text", new GreatProbes().fault(), GreatProbes.NONE);
        Due.is("fault of a text without a way", Due.written("age 3;").fault(), GreatProbes.NONE);
        Due.is("fault of one way", Due.written("way;").fault(), GreatProbes.NONE);
        Due.is("fault of one letter", Due.written("w").fault(), 0);
        GreatProbes x = Due.written("way;ways;");
        Due.is("fault", x.fault(), 4);
        Due.is("the same again", x.fault(), 4);
        x.wipe();
        Due.is("fault behind wipe", x.fault(), GreatProbes.NONE);
    }

    private static void semicolonBehindEach() {
        Due.sentence("A TEXT is ITEMS one behind the other, a ; behind each;");
        good("");
        good("age 3;age 4;");
        faultAt("way", 0);
        faultAt("way;way", 4);
        faultAt("wayway;", 0);
        faultAt("way;age 3age 4;", 4);
        faultAt("way:", 0);
        bad(";");
        bad(";;");
        String[] items = {"way", "age 3", "base 60", "top 900", "believe none", "draws 1", "draws 1234"};
        for (String item : items) {
            faultAt(item, 0);
            good(item + ";");
            faultAt("way;" + item, 4);
        }
        faultAt("way;hop 20 tell", 4);
        faultAt("way;loss 3", 4);
    }

    private static void oneBlank() {
        Due.sentence("words are as told, just one blank between two;");
        String[] beside = {" way;", "way ;", "age  3;", "age3;", " age 3;", "age 3 ;", "believe  all;", "believeall;", "believe all ;",
            "draws  1;", "draws1;", "top  900;", "top900;", "base  60;", "base60;", " "};
        for (String text : beside) {
            bad(text);
        }
        faultAt("age 3; way;", 6);
        faultAt("way; ", 4);
        String[] ofWay = {"hop  20 tell;", "hop 20  tell;", "hop20 tell;", "hop 20tell;", "hop 20 tell ;", " hop 20 tell;", "loss  3;", "loss3;",
            "loss 3 ;", "hop 20,tell;", "hop,20 tell;"};
        for (String text : ofWay) {
            faultAt("way;" + text, 4);
        }
    }

    private static void wordsAsTold() {
        Due.sentence("words are as told");
        String[] others = {"Way;", "WAY;", "wa;", "ways;", "wax;", "Age 3;", "ag 3;", "ages 3;", "bases 60;", "bas 60;", "tops 900;", "to 900;",
            "believes all;", "believ all;", "believe alls;", "believe al;", "believe All;", "believe check;", "believe checkedd;", "believe non;",
            "believe nones;", "believe 1;", "believe tell;", "draw 1;", "drawss 1;", "way 1;", "age x;", "age 3x;", "age three;", "kind 1;", "x;"};
        for (String text : others) {
            bad(text);
        }
        String[] ofWay = {"hops 20 tell;", "ho 20 tell;", "hop 20 tells;", "hop 20 tel;", "hop 20 Tell;", "hop 20 wron;", "hop 20 wrongs;", "hop 20 ol;",
            "hop 20 olds;", "hop 20 silen;", "hop 20 silents;", "hop 20 0;", "hop 20 all;", "hop tell 20;", "hop 20;", "hop 20 ;", "hop tell;", "hop;",
            "losses 3;", "los 3;", "loss x;", "loss 3 4;", "hop 20 tell 1;"};
        for (String text : ofWay) {
            faultAt("way;" + text, 4);
        }
        for (String word : new String[] {"tell", "wrong", "old", "silent"}) {
            good("way;hop 20 " + word + ";");
        }
    }

    private static void oneToFourFigures() {
        Due.sentence("numbers have one to four figures:");
        good("age 1;");
        good("age 01;");
        good("age 001;");
        good("age 0001;");
        bad("age 00001;");
        good("base 0020;");
        bad("base 00020;");
        good("top 0999;");
        bad("top 00999;");
        good("draws 0000;");
        good("draws 9999;");
        bad("draws 00000;");
        bad("draws 09999;");
        bad("draws 10000;");
        bad("draws 4294967296;");
        bad("age 4294967297;");
        bad("age +1;");
        bad("age 1.0;");
        bad("age 0x1;");
        faultAt("way;hop 00020 tell;", 4);
        faultAt("way;loss 00000;", 4);
        Due.is("hop 0020 tell", Due.laid("way;hop 0020 tell;").hop(0, 0, 0), 20);
        Due.is("hop 0999 tell", Due.laid("way;hop 0999 tell;").hop(0, 0, 0), 999);
        Due.is("loss 0099", Due.laid("way;loss 0099;").way(0, 12), 99);
        Due.is("draws 0012", Due.laid("way;draws 0012;").draw(0, 0), Due.laid("way;draws 12;").draw(0, 0));
    }

    private static void ways() {
        Due.sentence("(1 to 4), each of HOPS 0, 1, ..");
        Due.is("no way", Due.written("age 3;").lay(), GreatProbes.NO);
        for (int n = 1; n <= 4; n++) {
            GreatProbes x = Due.written("way;".repeat(n));
            Due.is(n + " ways: fault", x.fault(), GreatProbes.NONE);
            Due.is(n + " ways: lay", x.lay(), n);
            Due.is(n + " ways", x.count(0), n);
            Due.is(n + " ways: the last one", x.way(n - 1, 11), 0);
            Due.is(n + " ways: none behind", x.way(n, 11), GreatProbes.BAD);
        }
        faultAt("way;way;way;way;way;", 16);
    }

    private static void hops() {
        Due.sentence("(6 at most), with a LOSS (0 to 99 of a hundred).");
        for (int n = 0; n <= 6; n++) {
            GreatProbes x = Due.laid("way;" + "hop 21 old;".repeat(n));
            Due.is(n + " hops", x.way(0, 11), n);
            Due.is(n + " hops: the last one", x.hop(0, n - 1, 0), n == 0 ? GreatProbes.BAD : 21);
            Due.is(n + " hops: none behind", x.hop(0, n, 0), GreatProbes.BAD);
        }
        GreatProbes all = Due.laid(("way;" + SIX_HOPS).repeat(3) + "way;");
        Due.is("six of each", all.way(2, 11), 6);
        Due.is("none of the last", all.way(3, 11), 0);
        faultAt("way;" + SIX_HOPS + "hop 20 old;", 70);
        faultAt("way;way;" + SIX_HOPS + "hop 20 old;", 74);
        faultAt("way;" + SIX_HOPS + "way;" + SIX_HOPS + "hop 20 old;", 140);
    }

    private static void limits() {
        Due.sentence("A HOP has a LIMIT (20 to 999) and a KIND: 0 TELL, 1 WRONG, 2 OLD, 3 SILENT.");
        String[] words = {"tell", "wrong", "old", "silent"};
        for (int k = 0; k < 4; k++) {
            for (int l : new int[] {20, 21, 998, 999}) {
                GreatProbes x = Due.laid("way;hop " + l + " " + words[k] + ";");
                Due.is("limit", x.hop(0, 0, 0), l);
                Due.is("kind", x.hop(0, 0, 1), k);
            }
            faultAt("way;hop 19 " + words[k] + ";", 4);
            faultAt("way;hop 1000 " + words[k] + ";", 4);
        }
        faultAt("way;hop 0 tell;", 4);
        faultAt("way;hop 9999 tell;", 4);
        faultAt("way;hop -20 tell;", 4);
        faultAt("way;hop 20 tell;hop 19 tell;", 16);
    }

    private static void losses() {
        Due.sentence("LOSS of the latest WAY (0 without)");
        Due.is("without", Due.laid("way;").way(0, 12), 0);
        Due.is("0", Due.laid("way;loss 0;").way(0, 12), 0);
        Due.is("99", Due.laid("way;loss 99;").way(0, 12), 99);
        faultAt("way;loss 100;", 4);
        faultAt("way;loss -1;", 4);
        faultAt("way;loss 9999;", 4);
        faultAt("way;loss;", 4);
        faultAt("way;loss ;", 4);
        GreatProbes x = Due.laid("way;way;loss 5;way;");
        Due.is("of the way ahead", x.way(0, 12), 0);
        Due.is("of the latest", x.way(1, 12), 5);
        Due.is("of the one behind", x.way(2, 12), 0);
    }

    private static void bases() {
        Due.sentence("BASE (20 to 200; 60 without)");
        bounds("base", 20, 200);
        Due.is("least", Due.laid("way;base 20;").count(2), 20);
        Due.is("most", Due.laid("way;base 200;").count(2), 200);
        Due.is("without", Due.laid("way;").count(2), 60);
        Due.is("low at first", Due.laid("way;base 200;").way(0, 0), 200);
    }

    private static void tops() {
        Due.sentence("TOP (200 to 999; 900 without)");
        bounds("top", 200, 999);
        Due.is("least", Due.laid("way;top 200;").count(3), 200);
        Due.is("most", Due.laid("way;top 999;").count(3), 999);
        Due.is("without", Due.laid("way;").count(3), 900);
        Due.is("high at first", Due.laid("way;top 999;").way(0, 1), 999);
    }

    private static void ages() {
        Due.sentence("AGE (1 to 99; 20 without)");
        bounds("age", 1, 99);
        Due.is("least", Due.laid("way;age 1;").count(4), 1);
        Due.is("most", Due.laid("way;age 99;").count(4), 99);
        Due.is("without", Due.laid("way;").count(4), 20);
    }

    private static void beliefs() {
        Due.sentence("M is all, checked or none (checked without)");
        Due.is("all", Due.laid("way;believe all;").count(5), 0);
        Due.is("checked", Due.laid("way;believe none;believe checked;").count(5), 1);
        Due.is("none", Due.laid("way;believe none;").count(5), 2);
        Due.is("without", Due.laid("way;").count(5), 1);
        bad("believe;");
        bad("believe ;");
        bad("believe some;");
        bad("believe all none;");
    }

    private static void drawsBy() {
        Due.sentence("DRAWS by Z (0 to 9999; 0 without)");
        bounds("draws", 0, 9999);
        Due.is("without", Due.laid("way;").draw(0, 0), 1);
        Due.is("0", Due.laid("way;draws 0;").draw(0, 0), 1);
        Due.is("9999", Due.laid("way;draws 9999;").draw(0, 0), 51303);
    }

    /** What an earlier text told is gone, too. */
    private static void withoutThem() {
        Due.sentence("LOSS of the latest WAY (0 without)");
        GreatProbes x = Due.laid("way;hop 20 old;loss 9;base 20;top 999;age 9;believe none;draws 9;");
        x.wipe();
        Due.write(x, "way;");
        x.lay();
        Due.way("without", x, 0, 60, 900, 0, 0, 0, 0, 0, 0, 0, 0, 999, 0, 0);
        int[] due = {1, 0, 60, 900, 20, 1};
        for (int what = 0; what < due.length; what++) {
            Due.is("without: count(" + what + ")", x.count(what), due[what]);
        }
        Due.is("without: draw(0, 0)", x.draw(0, 0), 1);
    }

    private static void lastOneCounts() {
        Due.sentence("Of several loss of a WAY, base, top, .. the last one counts.");
        GreatProbes x = Due.laid("base 200;top 200;age 99;believe none;draws 9999;way;loss 99;base 20;loss 0;way;loss 1;"
            + "top 999;age 1;believe all;draws 0;loss 98;age 2;");
        Due.is("base", x.count(2), 20);
        Due.is("low of the first way", x.way(0, 0), 20);
        Due.is("top", x.count(3), 999);
        Due.is("high of the first way", x.way(0, 1), 999);
        Due.is("age", x.count(4), 2);
        Due.is("believed", x.count(5), 0);
        Due.is("draws", x.draw(0, 0), 1);
        Due.is("loss of way 0", x.way(0, 12), 0);
        Due.is("loss of way 1", x.way(1, 12), 98);
        faultAt("way;base 19;base 20;", 4);
        faultAt("way;loss 100;loss 3;", 4);
    }

    private static void firstFault() {
        Due.sentence("FAULT: the place (from 0 on) of the first letter of the first ITEM that is not so");
        faultAt("x", 0);
        faultAt("way;x;y;", 4);
        faultAt("age 0;way;x;", 0);
        faultAt("way;hop 20 tellx;", 4);
        faultAt("way;hop 20 tell;hop 20 tellx;hop 1 tell;", 16);
        Due.is("the last place of a full text", Due.written("way;" + "age 7;".repeat(38) + "age 77;x").fault(), 239);
    }

    private static void noWayAhead() {
        Due.sentence("(hop, loss without a way ahead, one too many)");
        faultAt("hop 20 tell;", 0);
        faultAt("hop 20 tell;way;", 0);
        faultAt("age 3;hop 20 tell;way;", 6);
        faultAt("loss 3;", 0);
        faultAt("loss 3;way;", 0);
        faultAt("age 3;loss 3;way;", 6);
        Due.is("a way ahead, not just ahead", Due.written("way;age 3;hop 20 tell;base 20;loss 3;").lay(), 1);
    }

    private static void oneTooMany() {
        Due.sentence("(hop, loss without a way ahead, one too many)");
        faultAt("way;age 3;way;base 20;way;way;top 999;way;", 38);
        faultAt("way;" + SIX_HOPS + "loss 3;hop 20 old;", 77);
        faultAt("way;" + SIX_HOPS + "hop 20 old;way;way;way;way;", 70);
    }

    private static void laidOrNo() {
        Due.sentence("LAID is a TEXT without FAULT with a WAY (NO else;");
        faultAt("", GreatProbes.NONE);
        faultAt("age 3;", GreatProbes.NONE);
        faultAt("base 20;top 999;age 9;believe none;draws 7;", GreatProbes.NONE);
        faultAt("way;x", 4);
        Due.sentence("LAID: how many WAYS; no TICK gone by, nothing can be UNDONE. NO.");
        GreatProbes x = changed("way;way;");
        Due.is("lay", x.lay(), 2);
        Due.is("ticks", x.count(1), 0);
        Due.is("sent", x.count(8), 0);
        Due.is("lost", x.count(9), 0);
    }

    private static void laidAtFirst() {
        Due.sentence("at first way;hop 700 tell;hop 333 silent;way;hop 500 wrong;hop 900 tell;loss 10;way;hop 640 old;).");
        GreatProbes x = Due.laid(FIRST);
        Due.is("wipe", x.wipe(), FIRST.length());
        Due.same("a new one", new GreatProbes(), x);
        for (int n = 1; n < FIRST.length(); n++) {
            String cut = FIRST.substring(0, n);
            int start = cut.lastIndexOf(';') + 1;
            Due.is("fault of " + cut, Due.written(cut).fault(), start == n ? GreatProbes.NONE : start);
        }
    }

    private static void nothingCanBeUndone() {
        Due.sentence("(the last 4 can be; behind LAID none can be)");
        GreatProbes x = Due.written("way;");
        for (int n = 0; n < 5; n++) {
            x.tick(1);
        }
        Due.is("four can be", x.count(10), 4);
        Due.is("lay", x.lay(), 1);
        Due.is("none can be", x.count(10), 0);
        Due.is("undo", x.undo(), GreatProbes.NO);
        Due.is("a change behind it", x.tick(1), 0);
        Due.is("one can be", x.count(10), 1);
        Due.is("undo of it", x.undo(), 0);
        Due.is("but not what was ahead of it", x.undo(), GreatProbes.NO);
        Due.is("it stays laid", x.count(0), 1);
    }

    private static void textStays() {
        Due.sentence("THE TEXT stays when it is LAID.");
        GreatProbes x = Due.laid("way;");
        Due.is("letters", x.count(11), 4);
        Due.is("lay again", x.lay(), 1);
        Due.is("more of it", x.write('w'), 5);
        Due.is("a fault now", x.fault(), 4);
        Due.is("no lay now", x.lay(), GreatProbes.NO);
        Due.is("the ways stay", x.count(0), 1);
        Due.write(x, "ay;");
        Due.is("and now", x.lay(), 2);
        Due.is("wipe", x.wipe(), 8);
        Due.is("the ways stay behind wipe", x.count(0), 2);
    }
}
