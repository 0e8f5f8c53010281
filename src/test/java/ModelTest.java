import java.util.Random;

/** All promises at once: random runs of calls, answered by the class as by the model. */
public final class ModelTest {
    private static final int RUNS = 1500;
    private static final int CALLS = 512;
    private static final String[] WORDS = {"way;", "way;", "hop # tell;", "hop # wrong;", "hop # old;", "hop # silent;", "loss @;",
        "base @;", "top #;", "age @;", "believe all;", "believe none;", "believe checked;", "draws #;"};

    private final Random random;
    private final GreatProbes x = new GreatProbes();
    private final Model model = new Model();
    private int calls = 0;
    private int[] seen = new int[4];

    private ModelTest(int seed) {
        random = new Random(seed);
    }

    public static void main(String[] args) {
        int[] all = new int[4];
        for (int seed = 0; seed < RUNS; seed++) {
            ModelTest run = new ModelTest(seed);
            run.go(seed);
            for (int n = 0; n < 4; n++) {
                all[n] += run.seen[n];
            }
        }
        Due.that("falls were met", all[0] > 100);
        Due.that("ways that are done were met", all[1] > 100);
        Due.that("laid texts were met", all[2] > 100);
        Due.that("soon was met", all[3] > 100);
        Due.end();
    }

    private void go(int seed) {
        boolean tellsText = seed % 3 != 0;
        if (tellsText) {
            tellText();
        }
        while (calls < CALLS) {
            if (tellsText && calls < CALLS - 110 && random.nextInt(90) == 0) {
                tellText();
            }
            call(random.nextInt(26));
        }
        seen[0] += model.way(0, 6) > 0 ? 1 : 0;
        seen[1] += model.count(7) > 0 ? 1 : 0;
        seen[3] += model.best(0) >= 0 ? 1 : 0;
    }

    /** An object is used for so many calls and no more; got is asked for by one of them. */
    private void same(String call, int got, int want) {
        calls++;
        Due.is("call " + calls + " " + call, got, want);
    }

    /** Mostly among the good numbers, at times just beyond an end, seldom far out. */
    private int near(int least, int most) {
        int chance = random.nextInt(60);
        if (chance == 0) {
            return least - 1;
        }
        if (chance == 1) {
            return most + 1;
        }
        if (chance == 2) {
            return random.nextInt();
        }
        return chance < 6 ? least : chance < 9 ? most : least + random.nextInt(most - least + 1);
    }

    private int someWay() {
        return near(0, Math.max(0, model.count(0) - 1));
    }

    private int someHop(int i) {
        return near(0, Math.max(0, model.way(i, 11) - 1));
    }

    private void tellText() {
        same("wipe()", x.wipe(), model.wipe());
        StringBuilder text = new StringBuilder(random.nextInt(8) == 0 ? "" : "way;");
        int items = random.nextInt(14);
        for (int n = 0; n < items; n++) {
            text.append(WORDS[random.nextInt(WORDS.length)]);
        }
        String told = text.toString();
        for (int n = 0; n < told.length(); n++) {
            char c = told.charAt(n);
            String put = c == '#' ? "" + (20 + random.nextInt(random.nextInt(40) == 0 ? 1100 : 980))
                : c == '@' ? "" + random.nextInt(random.nextInt(9) == 0 ? 210 : 100) : "" + c;
            if (random.nextInt(700) == 0) {
                put = "" + (char) (31 + random.nextInt(97));
            }
            for (int k = 0; k < put.length() && calls < CALLS - 100; k++) {
                same("write(" + (int) put.charAt(k) + ")", x.write(put.charAt(k)), model.write(put.charAt(k)));
            }
        }
        same("fault()", x.fault(), model.fault());
        int laid = x.lay();
        seen[2] += laid > 0 ? 1 : 0;
        same("lay()", laid, model.lay());
    }

    private void call(int which) {
        int i = someWay();
        int h = someHop(i);
        int n = random.nextInt(3) == 0 ? near(1, 99) : near(1, 5);
        switch (which) {
            case 0: case 1: case 2: case 3:
                same("tick(" + n + ")", x.tick(n), model.tick(n));
                look();
                return;
            case 4: n = near(1, 999); same("send(" + i + ", " + n + ")", x.send(i, n), model.send(i, n)); return;
            case 5: case 6: n = near(20, 999); same("limit(" + i + ", " + h + ", " + n + ")", x.limit(i, h, n), model.limit(i, h, n)); return;
            case 7: n = near(0, 3); same("kind(" + i + ", " + h + ", " + n + ")", x.kind(i, h, n), model.kind(i, h, n)); return;
            case 8: n = random.nextBoolean() ? near(0, 99) : near(0, 20); same("loss(" + i + ", " + n + ")", x.loss(i, n), model.loss(i, n)); return;
            case 9: n = near(0, 2); same("believe(" + n + ")", x.believe(n), model.believe(n)); return;
            case 10: same("undo()", x.undo(), model.undo()); look(); return;
            case 11: n = near(0, 1); same("hop(" + i + ", " + h + ", " + n + ")", x.hop(i, h, n), model.hop(i, h, n)); return;
            case 12: same("probe(" + i + ")", x.probe(i), model.probe(i)); return;
            case 13: n = near(0, 999); same("padding(" + i + ", " + n + ")", x.padding(i, n), model.padding(i, n)); return;
            case 14: case 15:
                n = near(1, 999);
                int what = near(0, 1);
                same("meets(" + i + ", " + n + ", " + what + ")", x.meets(i, n, what), model.meets(i, n, what));
                return;
            case 16: n = near(0, 9999); same("draw(" + i + ", " + n + ")", x.draw(i, n), model.draw(i, n)); return;
            case 17: case 18:
                int part = near(0, 4);
                same("ahead(" + n + ", " + i + ", " + part + ")", x.ahead(n, i, part), model.ahead(n, i, part));
                return;
            case 19: n = near(0, 2); same("soon(" + i + ", " + n + ")", x.soon(i, n), model.soon(i, n)); return;
            case 20: same("best(" + i + ")", x.best(i), model.best(i)); return;
            case 21: case 22: n = near(0, 11); same("count(" + n + ")", x.count(n), model.count(n)); return;
            default: n = near(0, 12); same("way(" + i + ", " + n + ")", x.way(i, n), model.way(i, n));
        }
    }

    /** Some of what stands behind a change, since all of it would use the calls up. */
    private void look() {
        int asked = Math.min(6, CALLS - calls);
        for (int n = 0; n < asked; n++) {
            int i = random.nextInt(model.count(0));
            int what = random.nextInt(13);
            same("way(" + i + ", " + what + ")", x.way(i, what), model.way(i, what));
        }
        if (calls < CALLS) {
            int what = random.nextInt(12);
            same("count(" + what + ")", x.count(what), model.count(what));
        }
    }
}
