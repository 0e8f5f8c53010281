/** Promise 1, and that objects do not touch one another. */
public final class NewObjectTest {
    public static void main(String[] args) {
        GreatProbes x = new GreatProbes();
        int[] due = {3, 0, 60, 900, 20, 1, 60, 0, 0, 0, 0, 0};
        for (int what = 0; what < due.length; what++) {
            Due.is("new: count(" + what + ")", x.count(what), due[what]);
        }
        Due.way("new", x, 0, 60, 900, 0, 0, 0, 0, 0, 0, 0, 0, 333, 2, 0);
        Due.way("new", x, 1, 60, 900, 0, 0, 0, 0, 0, 0, 0, 0, 500, 2, 10);
        Due.way("new", x, 2, 60, 900, 0, 0, 0, 0, 0, 0, 0, 0, 640, 1, 0);
        Due.is("fault", x.fault(), GreatProbes.NONE);
        Due.is("lay", x.lay(), GreatProbes.NO);
        Due.is("undo", x.undo(), GreatProbes.NO);
        Due.is("wipe", x.wipe(), 0);
        String first = "way;hop 700 tell;hop 333 silent;way;hop 500 wrong;hop 900 tell;loss 10;way;hop 640 old;";
        GreatProbes y = Due.laid(first);
        y.wipe();
        Due.unchanged("laying the first text", y, Due.picture(x));

        String before = Due.picture(x);
        y.tick(30);
        y.limit(0, 0, 400);
        y.believe(0);
        y.write('w');
        Due.unchanged("another object", x, before);
        Due.unchanged("a new object behind it", new GreatProbes(), before);
        Due.end();
    }
}
