/** Promises 7 to 12: send, limit, kind, loss, believe, undo. */
public final class ChangesTest {
    private static final int[] FAR = {-1, Integer.MIN_VALUE, Integer.MAX_VALUE};

    public static void main(String[] args) {
        sending();
        sendingLeavesTheSearch();
        limits();
        kinds();
        losses();
        beliefs();
        undoing();
        undoingEachKind();
        Due.end();
    }

    private static void sending() {
        GreatProbes x = Due.laid("way;hop 700 tell;hop 500 wrong;hop 400 old;hop 300 silent;way;hop 30 wrong;hop 20 old;");
        Due.is("arrives", x.send(0, 300), 0);
        Due.is("silent", x.send(0, 301), 1);
        Due.is("silent", x.send(0, 400), 1);
        Due.is("old", x.send(0, 401), 2 + 200);
        Due.is("old", x.send(0, 500), 2 + 250);
        Due.is("wrong", x.send(0, 501), 2 + 460);
        Due.is("wrong", x.send(0, 700), 2 + 460);
        Due.is("tell", x.send(0, 701), 2 + 700);
        Due.is("tell", x.send(0, 999), 2 + 700);
        Due.is("smallest", x.send(0, 1), 0);
        Due.is("wrong, 0 at least", x.send(1, 31), 2);
        Due.is("old of 21", x.send(1, 21), 2 + 10);
        Due.way("sent", x, 0, 60, 900, 0, 0, 0, 0, 0, 10, 2, 6);
        Due.way("0 and 10 are below base: lost by checked", x, 1, 60, 900, 0, 0, 0, 0, 0, 2, 2, 0);
        String before = Due.picture(x);
        int[][] bad = {{2, 1}, {-1, 1}, {0, 0}, {0, 1000}, {0, -1}, {Integer.MAX_VALUE, 1}, {Integer.MIN_VALUE, 5},
            {0, Integer.MAX_VALUE}, {0, Integer.MIN_VALUE}, {4, 100}, {3, 100}};
        for (int[] call : bad) {
            Due.is("send(" + call[0] + ", " + call[1] + ")", x.send(call[0], call[1]), GreatProbes.BAD);
        }
        Due.unchanged("a bad send", x, before);
        x.believe(0);
        x.send(1, 31);
        Due.way("all believe 0", x, 1, 60, 900, 0, 0, 0, 0, 0, 3, 2, 1);
        x.believe(2);
        Due.is("told, not believed", x.send(0, 999), 702);
        Due.way("none believe", x, 0, 60, 900, 0, 0, 0, 0, 0, 11, 3, 6);
    }

    private static void sendingLeavesTheSearch() {
        GreatProbes x = Due.laid("way;hop 480 silent;");
        x.tick(3);
        x.loss(0, 99);
        for (int n = 0; n < 5; n++) {
            x.send(0, 900);
        }
        Due.way("sent beside the search", x, 0, 480, 900, 0, 2, 0, 0, 0, 11, 7);
        Due.is("sent of all", x.count(8), 11);
        Due.is("lost of all", x.count(9), 7);
        Due.is("ticks", x.count(1), 3);
        GreatProbes drawn = Due.laid("way;loss 40;draws 77;way;");
        for (int k = 0; k < 50; k++) {
            drawn.send(1, 5);
            Due.is("letter " + k, drawn.send(0, 999), drawn.draw(0, k) % 100 < 40 ? 1 : 0);
        }
    }

    private static void limits() {
        GreatProbes x = new GreatProbes();
        Due.is("limit", x.limit(0, 1, 20), 333);
        Due.is("limit", x.limit(0, 1, 999), 20);
        Due.is("passes", x.way(0, 10), 700);
        Due.is("hop", x.hop(0, 1, 0), 999);
        Due.is("undoable", x.count(10), 2);
        String before = Due.picture(x);
        Due.is("it is so", x.limit(0, 1, 999), GreatProbes.NO);
        Due.is("it is so", x.limit(2, 0, 640), GreatProbes.NO);
        Due.is("too small", x.limit(0, 1, 19), GreatProbes.BAD);
        Due.is("too great", x.limit(0, 1, 1000), GreatProbes.BAD);
        Due.is("no way", x.limit(3, 0, 100), GreatProbes.BAD);
        Due.is("no hop", x.limit(0, 2, 100), GreatProbes.BAD);
        Due.is("no hop", x.limit(2, 1, 100), GreatProbes.BAD);
        for (int far : FAR) {
            Due.is("far way", x.limit(far, 0, 100), GreatProbes.BAD);
            Due.is("far hop", x.limit(0, far, 100), GreatProbes.BAD);
            Due.is("far limit", x.limit(0, 0, far), GreatProbes.BAD);
        }
        Due.unchanged("a refused limit", x, before);
    }

    private static void kinds() {
        GreatProbes x = new GreatProbes();
        Due.is("kind", x.kind(0, 0, 3), 0);
        Due.is("kind", x.kind(0, 0, 2), 3);
        Due.is("kind", x.kind(0, 0, 1), 2);
        Due.is("hop", x.hop(0, 0, 1), 1);
        Due.is("meets", x.meets(0, 701, 0), 662);
        Due.is("undoable", x.count(10), 3);
        String before = Due.picture(x);
        Due.is("it is so", x.kind(0, 0, 1), GreatProbes.NO);
        Due.is("kind 4", x.kind(0, 0, 4), GreatProbes.BAD);
        Due.is("no way", x.kind(3, 0, 0), GreatProbes.BAD);
        Due.is("no hop", x.kind(0, 2, 0), GreatProbes.BAD);
        for (int far : FAR) {
            Due.is("far way", x.kind(far, 0, 0), GreatProbes.BAD);
            Due.is("far hop", x.kind(0, far, 0), GreatProbes.BAD);
            Due.is("far kind", x.kind(0, 0, far), GreatProbes.BAD);
        }
        Due.unchanged("a refused kind", x, before);
    }

    private static void losses() {
        GreatProbes x = new GreatProbes();
        Due.is("loss", x.loss(1, 99), 10);
        Due.is("loss", x.loss(1, 0), 99);
        Due.is("way", x.way(1, 12), 0);
        Due.is("undoable", x.count(10), 2);
        String before = Due.picture(x);
        Due.is("it is so", x.loss(1, 0), GreatProbes.NO);
        Due.is("loss 100", x.loss(1, 100), GreatProbes.BAD);
        Due.is("no way", x.loss(3, 5), GreatProbes.BAD);
        for (int far : FAR) {
            Due.is("far way", x.loss(far, 5), GreatProbes.BAD);
            Due.is("far loss", x.loss(0, far), GreatProbes.BAD);
        }
        Due.unchanged("a refused loss", x, before);
    }

    private static void beliefs() {
        GreatProbes x = new GreatProbes();
        Due.is("believe", x.believe(0), 1);
        Due.is("believe", x.believe(2), 0);
        Due.is("count", x.count(5), 2);
        Due.is("undoable", x.count(10), 2);
        String before = Due.picture(x);
        Due.is("it is so", x.believe(2), GreatProbes.NO);
        Due.is("believe 3", x.believe(3), GreatProbes.BAD);
        for (int far : FAR) {
            Due.is("far belief", x.believe(far), GreatProbes.BAD);
        }
        Due.unchanged("a refused belief", x, before);
    }

    private static void undoing() {
        GreatProbes x = Due.laid("way;hop 700 wrong;loss 0;");
        String[] pictures = new String[7];
        for (int n = 0; n < 7; n++) {
            pictures[n] = withoutUndoable(x);
            Due.that("tick", x.tick(n + 1) >= 0);
            Due.is("undoable", x.count(10), Math.min(4, n + 1));
        }
        for (int n = 6; n >= 3; n--) {
            Due.is("undo", x.undo(), n - 3);
            Due.that("undone to " + n, withoutUndoable(x).equals(pictures[n]));
        }
        Due.is("no more", x.undo(), GreatProbes.NO);
        Due.that("a refused undo changes nothing", withoutUndoable(x).equals(pictures[3]));
        x.tick(4);
        Due.that("the same again", withoutUndoable(x).equals(pictures[4]));
        Due.is("undo of one", x.undo(), 0);
        x.tick(1);
        x.loss(0, 3);
        Due.is("undo of two", x.undo(), 1);
        x.loss(0, 4);
        x.loss(0, 5);
        x.loss(0, 6);
        x.loss(0, 7);
        int[] due = {6, 5, 4, 0};
        for (int n = 0; n < 4; n++) {
            Due.is("undo of loss", x.undo(), 3 - n);
            Due.is("loss", x.way(0, 12), due[n]);
        }
        Due.is("the tick is beyond", x.undo(), GreatProbes.NO);
    }

    private static void undoingEachKind() {
        for (int n = 0; n < 6; n++) {
            GreatProbes x = new GreatProbes();
            x.tick(12);
            String before = withoutUndoable(x);
            switch (n) {
                case 0: x.tick(3); break;
                case 1: x.send(1, 999); break;
                case 2: x.limit(1, 1, 20); break;
                case 3: x.kind(1, 1, 3); break;
                case 4: x.loss(2, 50); break;
                default: x.believe(0); break;
            }
            Due.that("changed by " + n, !withoutUndoable(x).equals(before));
            Due.is("undo of " + n, x.undo(), 1);
            Due.that("undone " + n, withoutUndoable(x).equals(before));
            Due.is("the tick can still be undone", x.count(10), 1);
        }
        GreatProbes x = Due.written("way;");
        x.tick(12);
        x.undo();
        Due.is("the text is not undone", x.count(11), 4);
        Due.is("ticks", x.count(1), 0);
    }

    /** The state alone: what an undo brings back. */
    private static String withoutUndoable(GreatProbes x) {
        String[] parts = Due.picture(x).split(" ");
        parts[10] = "";
        return String.join(" ", parts);
    }
}
