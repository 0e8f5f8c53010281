/** The terms of a LETTER, and what each WAY has at first, sentence by sentence: a part of DocumentTest. */
final class DocumentLetters {
    private static final String[] BELIEFS = {"all", "checked", "none"};

    private DocumentLetters() {
    }

    static void walk() {
        Due.passOver("======== 2");
        lostByLoss();
        dropped();
        arrives();
        believed();
        unbelieved();
        Due.passOver("```text");
        atFirst();
    }

    /** Rests by a hundred of the draws of way 0: 1, 10, 11, 25, 31, 50, 82; of way 1: 87, 47, 99, 64. */
    private static void lostByLoss() {
        Due.next("A LETTER of a SIZE (1 to 999) sent on a WAY, the k-th of it (0 the first since LAID): it is LOST, if DRAW k modulo 100 is below LOSS.");
        GreatProbes x = Due.laid("way;loss 11;way;loss 64;");
        for (int round = 0; round < 2; round++) {
            int[] due = {1, 1, 0, 0, 0, 0, 0};
            int[] other = {0, 1, 0, 0};
            for (int k = 0; k < due.length; k++) {
                Due.is("letter " + k, x.send(0, k + 1), due[k]);
                if (k < other.length) {
                    Due.is("letter " + k + " of way 1", x.send(1, 999), other[k]);
                }
            }
            Due.is("lost", x.way(0, 8), 2);
            Due.is("lost of way 1", x.way(1, 8), 1);
            Due.is("lay", x.lay(), 2);
        }
        GreatProbes ticks = Due.laid("way;hop 60 silent;loss 26;");
        Due.is("letters 0 and 1", ticks.tick(1), 2);
        Due.is("letter 2", ticks.send(0, 5), 1);
        Due.is("letter 3", ticks.send(0, 5), 1);
        Due.is("letter 4", ticks.send(0, 5), 0);
        int[] sizes = {0, 1, 999, 1000};
        for (int size : sizes) {
            Due.is("size " + size, Due.laid("way;").send(0, size), size < 1 || size > 999 ? GreatProbes.BAD : 0);
        }
    }

    private static void dropped() {
        Due.next("Else the first HOP whose LIMIT is below SIZE drops it: TELL tells back its LIMIT, WRONG its LIMIT less 40 (0 at least), OLD half of SIZE, cut;"
            + " by SILENT it is LOST.");
        GreatProbes x = Due.laid("way;hop 600 tell;hop 450 silent;hop 500 wrong;hop 300 old;hop 35 wrong;way;hop 41 wrong;way;hop 40 wrong;");
        int[][] due = {{35, 0}, {36, 2}, {300, 2}, {301, 152}, {450, 227}, {451, 1}, {600, 1}, {601, 602}, {999, 602}};
        for (int n = 0; n < due.length; n++) {
            Due.is("letter of " + due[n][0], x.send(0, due[n][0]), due[n][1]);
            Due.is("meets", x.meets(0, due[n][0], 0), due[n][1]);
        }
        Due.is("lost: by silent, and 0 told twice", x.way(0, 8), 4);
        Due.is("41 less 40", x.send(1, 42), 3);
        Due.is("40 less 40", x.send(2, 41), 2);
        x.kind(0, 1, 1);
        Due.is("450 less 40", x.send(0, 451), 412);
        GreatProbes crowded = Due.laid("way;hop 600 tell;loss 2;");
        Due.is("lost ahead of the hop", crowded.send(0, 999), 1);
        Due.is("dropped by the hop", crowded.send(0, 999), 602);
    }

    private static void arrives() {
        Due.next("If there is none, it ARRIVES.");
        GreatProbes x = Due.laid("way;hop 600 silent;hop 500 silent;way;");
        Due.is("of the least limit", x.send(0, 500), 0);
        Due.is("of the least size", x.send(0, 1), 0);
        Due.is("without hops", x.send(1, 999), 0);
        Due.way("way 0", x, 0, 60, 900, 0, 0, 0, 0, 0, 2, 0, 0);
        Due.way("way 1", x, 1, 60, 900, 0, 0, 0, 0, 0, 1, 0, 0);
    }

    private static void believed() {
        Due.next("What is told back, T, is believed: by all always; by checked, if T is BASE or more and below SIZE; by none never.");
        int[] told = {99, 100, 101, 0};
        String[] hops = {"hop 99 tell;", "hop 140 wrong;", "hop 30 old;", "hop 30 wrong;"};
        int[] sizes = {100, 141, 203, 31};
        for (int n = 0; n < hops.length; n++) {
            for (int m = 0; m < 3; m++) {
                GreatProbes x = Due.laid("way;base 100;" + hops[n] + "believe " + BELIEFS[m] + ";");
                Due.is(hops[n], x.send(0, sizes[n]), 2 + told[n]);
                Due.is(hops[n] + " believed by " + BELIEFS[m], x.way(0, 9), m == 0 || m == 1 && told[n] >= 100 ? 1 : 0);
            }
        }
    }

    private static void unbelieved() {
        Due.next("One that is told back and not believed is LOST, too.");
        GreatProbes x = Due.laid("way;hop 99 tell;hop 20 tell;base 100;");
        x.send(0, 100);
        Due.way("99 is not checked", x, 0, 100, 900, 0, 0, 0, 0, 0, 1, 1, 0);
        x.believe(0);
        x.send(0, 100);
        Due.way("99 is believed by all", x, 0, 100, 900, 0, 0, 0, 0, 0, 2, 1, 1);
        x.believe(2);
        x.send(0, 100);
        x.send(0, 999);
        Due.way("nothing by none", x, 0, 100, 900, 0, 0, 0, 0, 0, 4, 3, 1);
        Due.is("lost of all", x.count(9), 3);
        Due.is("by a tick: 100 and 500", x.tick(1), 2);
    }

    private static void atFirst() {
        Due.next("Each WAY has LOW (BASE at first), HIGH (TOP at first), STATE (0 SEARCHING, 1 DONE; at first 0; DONE, if LOW is HIGH), FAILS, MISSES, AGED"
            + " (0 at first each).");
        GreatProbes x = Due.laid("way;hop 90 silent;way;hop 123 tell;base 123;top 456;");
        x.tick(5);
        Due.way("way 0 was felt for", x, 0, 123, 289, 0, 2, 2, 0, 0, 10, 10, 0);
        Due.way("way 1 was found", x, 1, 123, 123, 1, 0, 0, 4, 0, 6, 0, 1);
        x.lay();
        for (int i = 0; i < 2; i++) {
            Due.way("way " + i, x, i, 123, 456, 0, 0, 0, 0, 0, 0, 0, 0);
        }
        GreatProbes narrow = Due.laid("way;way;base 200;top 200;");
        for (int i = 0; i < 2; i++) {
            Due.way("low is high", narrow, i, 200, 200, 1, 0, 0, 0, 0, 0, 0, 0);
        }
        Due.way("one between", Due.laid("way;base 199;top 200;"), 0, 199, 200, 0, 0, 0, 0, 0, 0, 0, 0);
        GreatProbes felt = Due.laid("way;base 199;top 200;");
        felt.tick(1);
        Due.way("low is high behind a tick", felt, 0, 200, 200, 1, 0, 0, 0, 0, 2, 0, 0);
    }
}
