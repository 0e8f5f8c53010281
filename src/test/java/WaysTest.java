import java.math.BigInteger;

/** Promises 13 to 18: way, hop, probe, padding, meets, draw. */
public final class WaysTest {
    private static final int[] FAR = {-1, Integer.MIN_VALUE, Integer.MAX_VALUE};

    public static void main(String[] args) {
        ways();
        hops();
        probes();
        paddings();
        meetings();
        draws();
        Due.end();
    }

    private static void ways() {
        GreatProbes x = new GreatProbes();
        for (int far : FAR) {
            Due.is("far way", x.way(far, 0), GreatProbes.BAD);
            Due.is("far what", x.way(0, far), GreatProbes.BAD);
        }
        Due.is("no way", x.way(3, 0), GreatProbes.BAD);
        Due.is("no what", x.way(0, 13), GreatProbes.BAD);
        GreatProbes wide = Due.laid("way;hop 20 tell;hop 30 tell;way;hop 999 tell;hop 998 tell;way;");
        Due.is("passes of the least", wide.way(0, 10), 20);
        Due.is("passes of the last", wide.way(1, 10), 998);
        Due.is("passes without hops", wide.way(2, 10), 999);
        Due.is("hops", wide.way(1, 11), 2);
        Due.is("no hops", wide.way(2, 11), 0);
    }

    private static void hops() {
        GreatProbes x = Due.laid("way;hop 20 silent;hop 21 old;hop 22 wrong;hop 23 tell;hop 999 tell;hop 25 old;way;");
        int[] limits = {20, 21, 22, 23, 999, 25};
        int[] kinds = {3, 2, 1, 0, 0, 2};
        for (int h = 0; h < 6; h++) {
            Due.is("limit of " + h, x.hop(0, h, 0), limits[h]);
            Due.is("kind of " + h, x.hop(0, h, 1), kinds[h]);
        }
        Due.is("hop 6", x.hop(0, 6, 0), GreatProbes.BAD);
        Due.is("what 2", x.hop(0, 0, 2), GreatProbes.BAD);
        Due.is("no hop", x.hop(1, 0, 0), GreatProbes.BAD);
        Due.is("no way", x.hop(2, 0, 0), GreatProbes.BAD);
        for (int far : FAR) {
            Due.is("far way", x.hop(far, 0, 0), GreatProbes.BAD);
            Due.is("far hop", x.hop(0, far, 0), GreatProbes.BAD);
            Due.is("far what", x.hop(0, 0, far), GreatProbes.BAD);
        }
    }

    private static void probes() {
        GreatProbes x = Due.laid("way;hop 700 tell;");
        int[] due = {480, 690, 795, 695, 698, 699, 700, GreatProbes.NONE};
        for (int n = 0; n < due.length; n++) {
            Due.is("probe " + n, x.probe(0), due[n]);
            x.tick(1);
        }
        Due.is("no way", x.probe(1), GreatProbes.BAD);
        for (int far : FAR) {
            Due.is("far way", x.probe(far), GreatProbes.BAD);
        }
        Due.is("base is top", Due.laid("way;base 200;top 200;").probe(0), GreatProbes.NONE);
        Due.is("base is top less 1", Due.laid("way;base 200;top 201;").probe(0), 201);
    }

    private static void paddings() {
        GreatProbes x = Due.laid("way;hop 700 tell;");
        Due.is("none of it", x.padding(0, 0), 480);
        Due.is("all of it", x.padding(0, 480), 0);
        Due.is("more than it", x.padding(0, 481), GreatProbes.NO);
        Due.is("most", x.padding(0, 999), GreatProbes.NO);
        Due.is("1000", x.padding(0, 1000), GreatProbes.BAD);
        Due.is("no way", x.padding(1, 0), GreatProbes.BAD);
        for (int far : FAR) {
            Due.is("far way", x.padding(far, 0), GreatProbes.BAD);
            Due.is("far bytes", x.padding(0, far), GreatProbes.BAD);
        }
        x.tick(7);
        Due.is("done", x.padding(0, 0), GreatProbes.NONE);
        Due.is("done, never NO", x.padding(0, 999), GreatProbes.NONE);
        Due.is("done, BAD first", x.padding(0, 1000), GreatProbes.BAD);
    }

    private static void meetings() {
        GreatProbes x = Due.laid("way;hop 700 tell;hop 500 wrong;hop 400 old;hop 300 silent;loss 99;way;loss 99;way;hop 39 wrong;");
        int[][] due = {{1, 0, GreatProbes.NONE}, {300, 0, GreatProbes.NONE}, {301, 1, 3}, {400, 1, 3}, {401, 202, 2},
            {499, 251, 2}, {500, 252, 2}, {501, 462, 1}, {700, 462, 1}, {701, 702, 0}, {999, 702, 0}};
        String before = Due.picture(x);
        for (int[] row : due) {
            Due.is("meets " + row[0], x.meets(0, row[0], 0), row[1]);
            Due.is("dropped " + row[0], x.meets(0, row[0], 1), row[2]);
        }
        Due.is("without hops", x.meets(1, 999, 0), 0);
        Due.is("without hops", x.meets(1, 999, 1), GreatProbes.NONE);
        Due.is("wrong, 0 at least", x.meets(2, 40, 0), 2);
        Due.is("wrong, 0 at least", x.meets(2, 40, 1), 0);
        Due.unchanged("meets", x, before);
        x.believe(2);
        Due.is("told back, believed or not", x.meets(0, 701, 0), 702);
        Due.is("size 0", x.meets(0, 0, 0), GreatProbes.BAD);
        Due.is("size 1000", x.meets(0, 1000, 0), GreatProbes.BAD);
        Due.is("what 2", x.meets(0, 1, 2), GreatProbes.BAD);
        Due.is("no way", x.meets(3, 1, 0), GreatProbes.BAD);
        for (int far : FAR) {
            Due.is("far way", x.meets(far, 1, 0), GreatProbes.BAD);
            Due.is("far size", x.meets(0, far, 0), GreatProbes.BAD);
            Due.is("far what", x.meets(0, 1, far), GreatProbes.BAD);
        }
    }

    private static void draws() {
        for (int z : new int[] {0, 1, 2, 500, 5123, 9998, 9999}) {
            GreatProbes x = Due.laid("way;way;way;way;draws " + z + ";");
            for (int i = 0; i < 4; i++) {
                for (int k : new int[] {0, 1, 2, 18, 777, 5000, 9998, 9999}) {
                    BigInteger sum = BigInteger.valueOf(7919).multiply(BigInteger.valueOf(z))
                        .add(BigInteger.valueOf(6151).multiply(BigInteger.valueOf(i)))
                        .add(BigInteger.valueOf(3571).multiply(BigInteger.valueOf(k))).add(BigInteger.ONE);
                    Due.is("draw(" + i + ", " + k + ") by " + z, x.draw(i, k),
                        sum.multiply(sum).mod(BigInteger.valueOf(65521)).intValue());
                }
            }
            Due.is("k 10000", x.draw(0, 10000), GreatProbes.BAD);
            Due.is("no way", x.draw(4, 0), GreatProbes.BAD);
            for (int far : FAR) {
                Due.is("far way", x.draw(far, 0), GreatProbes.BAD);
                Due.is("far k", x.draw(0, far), GreatProbes.BAD);
            }
        }
    }
}
