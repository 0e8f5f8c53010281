/** What the tests share: told answers are compared, wrong ones printed and counted. */
final class Due {
    private static int wrong = 0;

    private Due() {
    }

    static void is(String call, int got, int want) {
        if (got != want) {
            wrong++;
            System.out.println(call + " answered " + got + ", due is " + want);
        }
    }

    static void that(String what, boolean holds) {
        is(what, holds ? 1 : 0, 1);
    }

    /** Writes the text behind what stands, letter by letter. */
    static void write(GreatProbes x, String text) {
        for (int n = 0; n < text.length(); n++) {
            int before = x.count(11);
            is("write(" + (int) text.charAt(n) + ") in " + text, x.write(text.charAt(n)), before + 1);
        }
    }

    /** A new object with this text laid. */
    static GreatProbes laid(String text) {
        GreatProbes x = new GreatProbes();
        write(x, text);
        that("lay() of " + text, x.lay() > 0);
        return x;
    }

    /** What way(i, 0), way(i, 1), .. answer, as far as there are answers due. */
    static void way(String when, GreatProbes x, int i, int... want) {
        for (int what = 0; what < want.length; what++) {
            is(when + ": way(" + i + ", " + what + ")", x.way(i, what), want[what]);
        }
    }

    /** All that can be asked of an object without changing it, the text's letters apart. */
    static String picture(GreatProbes x) {
        StringBuilder all = new StringBuilder();
        for (int what = 0; what <= 11; what++) {
            all.append(x.count(what)).append(' ');
        }
        for (int i = 0; i < x.count(0); i++) {
            for (int what = 0; what <= 12; what++) {
                all.append(x.way(i, what)).append(' ');
            }
            for (int h = 0; h < x.way(i, 11); h++) {
                all.append(x.hop(i, h, 0)).append(' ').append(x.hop(i, h, 1)).append(' ');
            }
        }
        return all.append(x.fault()).toString();
    }

    static void unchanged(String call, GreatProbes x, String before) {
        if (!picture(x).equals(before)) {
            wrong++;
            System.out.println(call + " changed " + before + " to " + picture(x));
        }
    }

    static void end() {
        if (wrong != 0) {
            System.out.println(wrong + " answers are not as due");
            System.exit(1);
        }
    }
}
