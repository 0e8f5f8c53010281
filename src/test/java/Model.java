import java.math.BigInteger;
import java.util.ArrayDeque;
import java.util.ArrayList;
import java.util.Deque;
import java.util.List;
import java.util.regex.Matcher;
import java.util.regex.Pattern;

/** The document told a second time, with the Java library and without thrift: what random runs are compared with. */
final class Model {
    static final int BAD = -1, NO = -2, FULL = -3, NONE = -4;
    private static final Pattern ITEM = Pattern.compile(
        "(way|(?:hop) (\\d{1,4}) (tell|wrong|old|silent)|(loss|base|top|age|draws) (\\d{1,4})|believe (all|checked|none));");

    /** One way, by names as in the document. */
    static final class Way {
        int place, loss, low, high, state, fails, misses, aged, fallen, sent, lost, believed;
        List<int[]> hops = new ArrayList<>();

        Way twin() {
            Way w = new Way();
            w.place = place;
            w.loss = loss;
            w.low = low;
            w.high = high;
            w.state = state;
            w.fails = fails;
            w.misses = misses;
            w.aged = aged;
            w.fallen = fallen;
            w.sent = sent;
            w.lost = lost;
            w.believed = believed;
            for (int[] hop : hops) {
                w.hops.add(hop.clone());
            }
            return w;
        }
    }

    /** All that an undo brings back. */
    static final class World {
        int base = 60, top = 900, age = 20, belief = 1, draws = 0, ticks = 0;
        List<Way> ways = new ArrayList<>();

        World twin() {
            World w = new World();
            w.base = base;
            w.top = top;
            w.age = age;
            w.belief = belief;
            w.draws = draws;
            w.ticks = ticks;
            for (Way way : ways) {
                w.ways.add(way.twin());
            }
            return w;
        }

        int draw(int i, int k) {
            BigInteger x = BigInteger.valueOf(7919L * draws + 6151L * i + 3571L * k + 1);
            return x.pow(2).mod(BigInteger.valueOf(65521)).intValue();
        }

        int meets(Way w, int size) {
            for (int[] hop : w.hops) {
                if (hop[0] < size) {
                    return hop[1] == 3 ? 1 : 2 + (hop[1] == 0 ? hop[0] : hop[1] == 1 ? Math.max(0, hop[0] - 40) : size / 2);
                }
            }
            return 0;
        }

        /** As send() answers; a told one that is not believed counts as lost. */
        int send(Way w, int size) {
            int met = draw(w.place, w.sent) % 100 < w.loss ? 1 : meets(w, size);
            w.sent++;
            if (isLost(met, size)) {
                w.lost++;
            } else if (met > 1) {
                w.believed++;
            }
            return met;
        }

        boolean isLost(int met, int size) {
            int t = met - 2;
            boolean believed = belief == 0 || belief == 1 && t >= base && t < size;
            return met == 1 || met > 1 && !believed;
        }

        void tick(Way w) {
            int stateThen = w.state, lowThen = w.low, highThen = w.high;
            int met = send(w, lowThen);
            if (met == 0) {
                w.misses = 0;
            } else if (!isLost(met, lowThen)) {
                int t = met - 2;
                w.misses = 0;
                w.low = t < w.low ? Math.max(base, t) : w.low;
                w.high = t < w.high ? Math.max(w.low, t) : w.high;
            } else if (++w.misses == 3) {
                w.misses = 0;
                if (w.low > base) {
                    w.fallen++;
                    w.high = w.low - 1;
                    w.low = base;
                }
            }
            boolean other = w.low != lowThen || w.high != highThen;
            w.fails = other ? 0 : w.fails;
            if (w.low < w.high && (stateThen == 0 || other)) {
                int size = w.low + (w.high - w.low + 1) / 2;
                int felt = send(w, size);
                if (felt == 0) {
                    w.low = size;
                    w.fails = 0;
                } else if (!isLost(felt, size)) {
                    w.high = felt - 2 < w.high ? Math.max(w.low, felt - 2) : w.high;
                    w.fails = 0;
                } else if (++w.fails == 3) {
                    w.high = size - 1;
                    w.fails = 0;
                }
            } else if (stateThen == 1 && ++w.aged == age) {
                w.aged = 0;
                w.high = top;
            }
            w.state = w.low == w.high ? 1 : 0;
            w.aged = w.state == 0 ? 0 : w.aged;
        }
    }

    private final StringBuilder text = new StringBuilder();
    private World world;
    private final Deque<World> earlier = new ArrayDeque<>();

    Model() {
        text.append("way;hop 700 tell;hop 333 silent;way;hop 500 wrong;hop 900 tell;loss 10;way;hop 640 old;");
        lay();
        text.setLength(0);
    }

    private void remember() {
        earlier.push(world.twin());
        if (earlier.size() > 4) {
            earlier.removeLast();
        }
    }

    private boolean noWay(int i) {
        return i < 0 || i >= world.ways.size();
    }

    private boolean noHop(int i, int h) {
        return noWay(i) || h < 0 || h >= world.ways.get(i).hops.size();
    }

    private static boolean out(int n, int least, int most) {
        return n < least || n > most;
    }

    int write(int letter) {
        if (out(letter, 32, 126)) {
            return BAD;
        }
        return text.length() == 240 ? FULL : text.append((char) letter).length();
    }

    int wipe() {
        int was = text.length();
        text.setLength(0);
        return was;
    }

    int fault() {
        return read(new World());
    }

    int lay() {
        World laid = new World();
        if (read(laid) != NONE || laid.ways.isEmpty()) {
            return NO;
        }
        for (Way w : laid.ways) {
            w.low = laid.base;
            w.high = laid.top;
            w.state = laid.base == laid.top ? 1 : 0;
        }
        world = laid;
        earlier.clear();
        return laid.ways.size();
    }

    private int read(World into) {
        Matcher item = ITEM.matcher(text);
        int at = 0;
        while (at < text.length()) {
            if (!item.find(at) || item.start() != at || !take(into, item)) {
                return at;
            }
            at = item.end();
        }
        return NONE;
    }

    private static boolean take(World into, Matcher item) {
        Way latest = into.ways.isEmpty() ? null : into.ways.get(into.ways.size() - 1);
        if (item.group(1).equals("way")) {
            Way w = new Way();
            w.place = into.ways.size();
            into.ways.add(w);
            return into.ways.size() <= 4;
        }
        if (item.group(2) != null) {
            int l = Integer.parseInt(item.group(2));
            if (latest == null || out(l, 20, 999) || latest.hops.size() == 6) {
                return false;
            }
            latest.hops.add(new int[] {l, List.of("tell", "wrong", "old", "silent").indexOf(item.group(3))});
            return true;
        }
        if (item.group(6) != null) {
            into.belief = List.of("all", "checked", "none").indexOf(item.group(6));
            return true;
        }
        int n = Integer.parseInt(item.group(5));
        switch (item.group(4)) {
            case "loss":
                if (latest == null) {
                    return false;
                }
                latest.loss = n;
                return !out(n, 0, 99);
            case "base": into.base = n; return !out(n, 20, 200);
            case "top": into.top = n; return !out(n, 200, 999);
            case "age": into.age = n; return !out(n, 1, 99);
            default: into.draws = n; return !out(n, 0, 9999);
        }
    }

    private int lost() {
        return world.ways.stream().mapToInt(w -> w.lost).sum();
    }

    int tick(int n) {
        if (out(n, 1, 99)) {
            return BAD;
        }
        if (world.ticks + n > 9999) {
            return NO;
        }
        remember();
        int before = lost();
        for (int t = 0; t < n; t++) {
            for (Way w : world.ways) {
                world.tick(w);
            }
            world.ticks++;
        }
        return lost() - before;
    }

    int send(int i, int size) {
        if (noWay(i) || out(size, 1, 999)) {
            return BAD;
        }
        remember();
        return world.send(world.ways.get(i), size);
    }

    private int put(int i, int h, int part, int n, int least, int most) {
        if (noHop(i, h) || out(n, least, most)) {
            return BAD;
        }
        int was = world.ways.get(i).hops.get(h)[part];
        if (was == n) {
            return NO;
        }
        remember();
        world.ways.get(i).hops.get(h)[part] = n;
        return was;
    }

    int limit(int i, int h, int l) {
        return put(i, h, 0, l, 20, 999);
    }

    int kind(int i, int h, int k) {
        return put(i, h, 1, k, 0, 3);
    }

    int loss(int i, int q) {
        if (noWay(i) || out(q, 0, 99)) {
            return BAD;
        }
        int was = world.ways.get(i).loss;
        if (was == q) {
            return NO;
        }
        remember();
        world.ways.get(i).loss = q;
        return was;
    }

    int believe(int m) {
        if (out(m, 0, 2)) {
            return BAD;
        }
        int was = world.belief;
        if (was == m) {
            return NO;
        }
        remember();
        world.belief = m;
        return was;
    }

    int undo() {
        if (earlier.isEmpty()) {
            return NO;
        }
        world = earlier.pop();
        return earlier.size();
    }

    private static int passes(Way w) {
        return w.hops.stream().mapToInt(h -> h[0]).min().orElse(999);
    }

    int way(int i, int what) {
        if (noWay(i) || out(what, 0, 12)) {
            return BAD;
        }
        Way w = world.ways.get(i);
        return new int[] {w.low, w.high, w.state, w.fails, w.misses, w.aged, w.fallen, w.sent, w.lost, w.believed,
            passes(w), w.hops.size(), w.loss}[what];
    }

    int hop(int i, int h, int what) {
        return noHop(i, h) || out(what, 0, 1) ? BAD : world.ways.get(i).hops.get(h)[what];
    }

    int probe(int i) {
        if (noWay(i)) {
            return BAD;
        }
        Way w = world.ways.get(i);
        return w.low == w.high ? NONE : (w.low + w.high + 1) / 2;
    }

    int padding(int i, int c) {
        if (out(c, 0, 999)) {
            return BAD;
        }
        int size = probe(i);
        return size < 0 ? size : size < c ? NO : size - c;
    }

    int meets(int i, int size, int what) {
        if (noWay(i) || out(size, 1, 999) || out(what, 0, 1)) {
            return BAD;
        }
        Way w = world.ways.get(i);
        if (what == 0) {
            return world.meets(w, size);
        }
        for (int h = 0; h < w.hops.size(); h++) {
            if (w.hops.get(h)[0] < size) {
                return h;
            }
        }
        return NONE;
    }

    int draw(int i, int k) {
        return noWay(i) || out(k, 0, 9999) ? BAD : world.draw(i, k);
    }

    int ahead(int n, int i, int what) {
        if (out(n, 1, 99) || noWay(i) || out(what, 0, 4)) {
            return BAD;
        }
        World trial = world.twin();
        Way w = trial.ways.get(i);
        int fallen = w.fallen, lost = w.lost;
        for (int t = 0; t < n; t++) {
            trial.ways.forEach(trial::tick);
        }
        return new int[] {w.low, w.high, w.state, w.fallen - fallen, w.lost - lost}[what];
    }

    int soon(int i, int m) {
        if (noWay(i) || out(m, 0, 2)) {
            return BAD;
        }
        World trial = world.twin();
        trial.belief = m;
        Way w = trial.ways.get(i);
        int sought = passes(w) < trial.base ? trial.base : trial.top < passes(w) ? trial.top : passes(w);
        for (int n = 1; n <= 99; n++) {
            trial.ways.forEach(trial::tick);
            if (w.low == sought) {
                return n;
            }
        }
        return NONE;
    }

    int best(int i) {
        int best = noWay(i) ? BAD : NONE;
        for (int m = 2; m >= 0 && best != BAD; m--) {
            int n = soon(i, m);
            best = n != NONE && (best == NONE || n <= soon(i, best)) ? m : best;
        }
        return best;
    }

    int count(int what) {
        if (out(what, 0, 11)) {
            return BAD;
        }
        return new int[] {world.ways.size(), world.ticks, world.base, world.top, world.age, world.belief,
            world.ways.stream().mapToInt(w -> w.low).min().orElse(0), (int) world.ways.stream().filter(w -> w.state == 1).count(),
            world.ways.stream().mapToInt(w -> w.sent).sum(), lost(), earlier.size(), text.length()}[what];
    }
}
