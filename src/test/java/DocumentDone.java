/** Promises 1 to 12, sentence by sentence: a part of DocumentTest. */
final class DocumentDone {
    private static final int BAD = GreatProbes.BAD, NO = GreatProbes.NO, FULL = GreatProbes.FULL, NONE = GreatProbes.NONE;

    private DocumentDone() {
    }

    static void walk() {
        newObject();
        write();
        wipe();
        fault();
        lay();
        tick();
        send();
        limit();
        kind();
        loss();
        believe();
        undo();
    }

    private static void newObject() {
        Due.passOver("## Promise 1: A new object `GreatProbes()`:");
        Due.next("As told; THE TEXT is empty.");
        GreatProbes x = new GreatProbes();
        int[] due = {3, 0, 60, 900, 20, 1, 60, 0, 0, 0, 0, 0};
        for (int what = 0; what < due.length; what++) {
            Due.is("count(" + what + ")", x.count(what), due[what]);
        }
        int[][] passesHopsLoss = {{333, 2, 0}, {500, 2, 10}, {640, 1, 0}};
        for (int i = 0; i < 3; i++) {
            int[] row = passesHopsLoss[i];
            Due.way("new", x, i, 60, 900, 0, 0, 0, 0, 0, 0, 0, 0, row[0], row[1], row[2]);
        }
        Due.is("draws by 0", x.draw(1, 0), 41487);
        Due.is("wipe", x.wipe(), 0);
        Due.is("undo", x.undo(), NO);
    }

    private static void write() {
        Due.passOver("## Promise 2: write `int write(int letter)`:");
        Due.next("A letter (32 to 126, as in ASCII) comes behind THE TEXT: how long it is. BAD; FULL: it has 240.");
        GreatProbes x = new GreatProbes();
        for (int letter = 32; letter <= 126; letter++) {
            Due.is("write(" + letter + ")", x.write(letter), letter - 31);
        }
        for (int letter : new int[] {31, 127, 0, -1, 65536 + 'a', Integer.MIN_VALUE, Integer.MAX_VALUE}) {
            Due.is("write(" + letter + ")", x.write(letter), BAD);
        }
        for (int length = 96; length <= 240; length++) {
            Due.is("write(32)", x.write(32), length);
        }
        Due.is("write(32) beyond 240", x.write(32), FULL);
        Due.is("write(31) beyond 240", x.write(31), BAD);
        Due.is("letters", x.count(11), 240);
        GreatProbes ordered = new GreatProbes();
        for (int letter : new int[] {119, 97, 121, 59}) {
            ordered.write(letter);
        }
        Due.is("way; in ASCII", ordered.lay(), 1);
    }

    private static void wipe() {
        Due.passOver("## Promise 3: wipe `int wipe()`:");
        Due.next("THE TEXT is empty: how long it was.");
        GreatProbes x = Due.written("way;top 300;");
        Due.is("wipe", x.wipe(), 12);
        Due.is("letters", x.count(11), 0);
        Due.is("wipe again", x.wipe(), 0);
        Due.write(x, "x");
        Due.is("fault of what is new", x.fault(), 0);
        Due.is("wipe", x.wipe(), 1);
        Due.is("the ways stay", x.count(0), 3);
        Due.is("fault of nothing", x.fault(), NONE);
    }

    private static void fault() {
        Due.passOver("## Promise 4: fault `int fault()`:");
        Due.next("FAULT of THE TEXT. NONE.");
        GreatProbes x = new GreatProbes();
        Due.is("fault of nothing", x.fault(), NONE);
        String text = "top 300;way;hop 30 old;";
        int[] starts = {0, 8, 12};
        for (int n = 0; n < text.length(); n++) {
            x.write(text.charAt(n));
            int start = n < 8 ? starts[0] : n < 12 ? starts[1] : starts[2];
            Due.is("fault behind letter " + n, x.fault(), text.charAt(n) == ';' ? NONE : start);
        }
        x.write(' ');
        Due.is("a blank behind", x.fault(), 23);
        Due.is("asked again", x.fault(), 23);
        Due.is("letters", x.count(11), 24);
    }

    private static void lay() {
        Due.passOver("## Promise 5: lay `int lay()`:");
        Due.next("LAID: how many WAYS; no TICK gone by, nothing can be UNDONE. NO.");
        GreatProbes x = Due.written("way;hop 30 old;way;loss 3;");
        x.tick(9);
        x.limit(0, 0, 300);
        x.believe(0);
        Due.is("lay", x.lay(), 2);
        Due.is("ticks", x.count(1), 0);
        Due.is("sent", x.count(8), 0);
        Due.is("can be undone", x.count(10), 0);
        Due.is("believed", x.count(5), 1);
        Due.is("limit", x.hop(0, 0, 0), 30);
        Due.is("undo", x.undo(), NO);
        x.tick(5);
        Due.write(x, "way");
        Due.is("a text with a fault", x.lay(), NO);
        Due.is("ticks", x.count(1), 5);
        Due.is("can be undone", x.count(10), 1);
        x.wipe();
        Due.is("an empty text", x.lay(), NO);
        Due.is("ways", x.count(0), 2);
    }

    private static void tick() {
        Due.passOver("## Promise 6: tick `int tick(int n)`:");
        Due.next("n TICKS (1 to 99) go by: how many LETTERS are LOST in them, of all WAYS. BAD; NO: there would be more than 9999.");
        String text = "way;hop 197 silent;way;hop 197 tell;way;hop 195 silent;base 196;top 200;";
        int[] due = {3, 3, 3, 2, 2, 2};
        GreatProbes x = Due.laid(text);
        int lost = 0;
        for (int n = 0; n < due.length; n++) {
            Due.is("tick " + n, x.tick(1), due[n]);
            Due.is("ticks", x.count(1), n + 1);
            lost += due[n];
            Due.is("six at once", Due.laid(text).tick(n + 1), lost);
        }
        Due.is("no ticks", x.tick(0), BAD);
        Due.is("100 ticks", x.tick(100), BAD);
        GreatProbes last = Due.laid("way;base 200;top 200;");
        for (int n = 0; n < 100; n++) {
            Due.is("99 ticks", last.tick(99), 0);
        }
        Due.is("ticks", last.count(1), 9900);
        Due.is("50 more", last.tick(50), 0);
        Due.is("50 more would be 10000", last.tick(50), NO);
        Due.is("49 more", last.tick(49), 0);
        Due.is("ticks", last.count(1), 9999);
        Due.is("one more", last.tick(1), NO);
    }

    private static void send() {
        Due.passOver("## Promise 7: send `int send(int i, int size)`:");
        Due.next("A LETTER of a SIZE is sent on a WAY (LOW, HIGH stay): 0 it ARRIVES, 1 it is LOST, 2 and T, together: T is told back (believed or not). BAD;"
            + " NO: 99999 were sent.");
        GreatProbes x = Due.laid("way;hop 196 tell;way;hop 196 silent;base 196;top 200;");
        x.tick(2);
        Due.way("way 1", x, 1, 196, 200, 0, 2, 0, 0, 0, 4, 2, 0);
        for (int n = 1; n <= 4; n++) {
            Due.is("told", x.send(0, 200), 198);
            Due.is("lost", x.send(1, 200), 1);
            Due.is("arrives", x.send(1, 196), 0);
            Due.way("sent, believed", x, 0, 196, 196, 1, 0, 0, 1, 0, 3 + n, 0, 1 + n);
            Due.way("sent, lost", x, 1, 196, 200, 0, 2, 0, 0, 0, 4 + 2 * n, 2 + n, 0);
        }
        Due.is("no tick", x.count(1), 2);
        x.believe(2);
        Due.is("told, not believed", x.send(0, 200), 198);
        Due.way("sent, lost", x, 0, 196, 196, 1, 0, 0, 1, 0, 8, 1, 5);
        Due.is("no way", x.send(2, 60), BAD);
        Due.is("no size", x.send(0, 0), BAD);
        Due.is("no such size", x.send(0, 1000), BAD);
    }

    private static void limit() {
        Due.passOver("## Promise 8: limit `int limit(int i, int h, int l)`:");
        Due.next("LIMIT of a HOP (20 to 999): what it was. BAD; NO: it is so.");
        GreatProbes x = Due.laid("way;hop 300 tell;hop 400 old;way;hop 500 wrong;");
        Due.is("what it was", x.limit(0, 1, 20), 400);
        Due.is("what it was", x.limit(0, 1, 999), 20);
        Due.is("what it was", x.limit(1, 0, 555), 500);
        Due.is("it is so", x.limit(1, 0, 555), NO);
        int[] due = {300, 999, 555};
        Due.is("hop 0", x.hop(0, 0, 0), due[0]);
        Due.is("hop 1", x.hop(0, 1, 0), due[1]);
        Due.is("hop 0 of way 1", x.hop(1, 0, 0), due[2]);
        Due.is("its kind", x.hop(1, 0, 1), 1);
        Due.is("what a letter meets", x.meets(1, 556, 0), 517);
        Due.is("19", x.limit(0, 0, 19), BAD);
        Due.is("1000", x.limit(0, 0, 1000), BAD);
        Due.is("no hop", x.limit(1, 1, 60), BAD);
        Due.is("no way", x.limit(2, 0, 60), BAD);
        Due.is("changes", x.count(10), 3);
    }

    private static void kind() {
        Due.passOver("## Promise 9: kind `int kind(int i, int h, int k)`:");
        Due.next("KIND of a HOP (0 to 3): what it was. BAD; NO: it is so.");
        GreatProbes x = Due.laid("way;hop 300 tell;hop 400 old;way;hop 500 wrong;");
        Due.is("what it was", x.kind(0, 1, 0), 2);
        Due.is("what it was", x.kind(0, 1, 3), 0);
        Due.is("what it was", x.kind(1, 0, 2), 1);
        Due.is("it is so", x.kind(1, 0, 2), NO);
        Due.is("hop 0", x.hop(0, 0, 1), 0);
        Due.is("hop 1", x.hop(0, 1, 1), 3);
        Due.is("hop 0 of way 1", x.hop(1, 0, 1), 2);
        Due.is("its limit", x.hop(1, 0, 0), 500);
        Due.is("what a letter meets", x.meets(1, 600, 0), 302);
        Due.is("-1", x.kind(0, 0, -1), BAD);
        Due.is("4", x.kind(0, 0, 4), BAD);
        Due.is("no hop", x.kind(1, 1, 0), BAD);
        Due.is("no way", x.kind(2, 0, 0), BAD);
        Due.is("changes", x.count(10), 3);
    }

    private static void loss() {
        Due.passOver("## Promise 10: loss `int loss(int i, int q)`:");
        Due.next("LOSS of a WAY (0 to 99): what it was. BAD; NO: it is so.");
        GreatProbes x = Due.laid("way;loss 4;way;");
        Due.is("what it was", x.loss(0, 99), 4);
        Due.is("what it was", x.loss(0, 0), 99);
        Due.is("what it was", x.loss(1, 88), 0);
        Due.is("it is so", x.loss(1, 88), NO);
        Due.is("way 0", x.way(0, 12), 0);
        Due.is("way 1", x.way(1, 12), 88);
        Due.is("a letter with a draw of 87 by a hundred", x.send(1, 1), 1);
        Due.is("-1", x.loss(0, -1), BAD);
        Due.is("100", x.loss(0, 100), BAD);
        Due.is("no way", x.loss(2, 5), BAD);
        Due.is("changes", x.count(10), 4);
    }

    private static void believe() {
        Due.passOver("## Promise 11: believe `int believe(int m)`:");
        Due.next("What is believed: 0 all, 1 checked, 2 none: what it was. BAD; NO: it is so.");
        GreatProbes x = Due.laid("way;hop 30 wrong;way;hop 100 wrong;");
        Due.is("it is so", x.believe(1), NO);
        int[][] mWasBelieved = {{0, 1, 1, 1}, {2, 0, 0, 0}, {1, 2, 0, 1}};
        for (int[] row : mWasBelieved) {
            Due.is("what it was", x.believe(row[0]), row[1]);
            Due.is("it is now", x.count(5), row[0]);
            Due.is("it is so", x.believe(row[0]), NO);
            int below = x.way(0, 9);
            int base = x.way(1, 9);
            x.send(0, 31);
            x.send(1, 101);
            Due.is("0 is believed by " + row[0], x.way(0, 9) - below, row[2]);
            Due.is("60 is believed by " + row[0], x.way(1, 9) - base, row[3]);
        }
        Due.is("-1", x.believe(-1), BAD);
        Due.is("3", x.believe(3), BAD);
    }

    private static void undo() {
        Due.passOver("## Promise 12: undo `int undo()`:");
        Due.next("UNDONE: how many more can be. NO.");
        GreatProbes x = Due.laid("way;hop 197 silent;base 196;top 200;");
        x.tick(2);
        x.send(0, 999);
        x.believe(2);
        x.limit(0, 0, 300);
        x.kind(0, 0, 1);
        Due.is("undo of the kind", x.undo(), 3);
        Due.is("kind", x.hop(0, 0, 1), 3);
        Due.is("undo of the limit", x.undo(), 2);
        Due.is("limit", x.hop(0, 0, 0), 197);
        Due.is("undo of the belief", x.undo(), 1);
        Due.is("belief", x.count(5), 1);
        Due.way("sent", x, 0, 196, 200, 0, 2, 0, 0, 0, 5, 3, 0);
        Due.is("undo of the letter", x.undo(), 0);
        Due.way("not sent", x, 0, 196, 200, 0, 2, 0, 0, 0, 4, 2, 0);
        Due.is("the ticks were the fifth", x.undo(), NO);
        Due.is("ticks", x.count(1), 2);
        x.tick(1);
        Due.is("undo of a tick", x.undo(), 0);
        Due.is("ticks", x.count(1), 2);
        Due.way("as it was", x, 0, 196, 200, 0, 2, 0, 0, 0, 4, 2, 0);
    }
}
