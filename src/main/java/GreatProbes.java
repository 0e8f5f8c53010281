/** Feels for the greatest letter that each of some ways of hops lets pass. */
public final class GreatProbes {
    public static final int BAD = -1, NO = -2, FULL = -3, NONE = -4;

    private static final String FIRST_TEXT =
            "way;hop 700 tell;hop 333 silent;way;hop 500 wrong;hop 900 tell;loss 10;way;hop 640 old;";

    private static final int MOST_LETTERS = 240;
    private static final int MOST_FIGURES = 4;
    private static final int MOST_WAYS = 4;
    private static final int MOST_HOPS = 6;
    private static final int MOST_UNDONE = 4;
    private static final int MOST_TICKS = 9999;
    private static final int MOST_TICKS_AT_ONCE = 99;
    private static final int MOST_SENT = 99999;
    private static final int MOST_DRAWN = 9999;
    private static final int MOST_LOSS = 99;
    private static final int LEAST_LIMIT = 20;
    private static final int GREATEST_SIZE = 999;

    private static final int TELL = 0, WRONG = 1, OLD = 2, SILENT = 3;
    private static final int ALL = 0, CHECKED = 1, NOTHING = 2;
    private static final int SEARCHING = 0, DONE = 1;
    private static final int ARRIVES = 0, LOST = 1, TOLD = 2;
    private static final int WRONG_BY = 40;
    private static final int LOSSES_THAT_TELL = 3;

    private final Text text = new Text();
    private final Net net = new Net();
    private final Net draft = new Net();
    private final Net[] earlier = new Net[MOST_UNDONE];
    private int nextEarlier;
    private int undoable;
    private final Way trial = new Way();
    private final Rules trialRules = new Rules();

    public GreatProbes() {
        for (int n = 0; n < MOST_UNDONE; n++) {
            earlier[n] = new Net();
        }
        for (int n = 0; n < FIRST_TEXT.length(); n++) {
            text.append(FIRST_TEXT.charAt(n));
        }
        draft.read(text);
        net.copy(draft);
        text.length = 0;
    }

    // ---- told

    public int write(int letter) {
        if (letter < 32 || letter > 126) {
            return BAD;
        }
        if (text.length >= MOST_LETTERS) {
            return FULL;
        }
        text.append((char) letter);
        return text.length;
    }

    public int wipe() {
        int was = text.length;
        text.length = 0;
        return was;
    }

    public int fault() {
        return draft.read(text);
    }

    public int lay() {
        if (draft.read(text) != NONE || draft.wayCount == 0) {
            return NO;
        }
        net.copy(draft);
        undoable = 0;
        return net.wayCount;
    }

    // ---- what is done

    public int tick(int n) {
        if (!isBetween(n, 1, MOST_TICKS_AT_ONCE)) {
            return BAD;
        }
        if (net.ticks + n > MOST_TICKS) {
            return NO;
        }
        remember();
        int lostBefore = net.allLost();
        for (int i = 0; i < net.wayCount; i++) {
            net.ways[i].goOn(n, net.rules);
        }
        net.ticks += n;
        return net.allLost() - lostBefore;
    }

    public int send(int i, int size) {
        if (!isWay(i) || !isBetween(size, 1, GREATEST_SIZE)) {
            return BAD;
        }
        if (net.ways[i].sent >= MOST_SENT) {
            return NO;
        }
        remember();
        return net.ways[i].post(size, net.rules);
    }

    public int limit(int i, int h, int l) {
        if (!isHop(i, h) || !isBetween(l, LEAST_LIMIT, GREATEST_SIZE)) {
            return BAD;
        }
        int was = net.ways[i].limits[h];
        if (was == l) {
            return NO;
        }
        remember();
        net.ways[i].limits[h] = l;
        return was;
    }

    public int kind(int i, int h, int k) {
        if (!isHop(i, h) || !isBetween(k, TELL, SILENT)) {
            return BAD;
        }
        int was = net.ways[i].kinds[h];
        if (was == k) {
            return NO;
        }
        remember();
        net.ways[i].kinds[h] = k;
        return was;
    }

    public int loss(int i, int q) {
        if (!isWay(i) || !isBetween(q, 0, MOST_LOSS)) {
            return BAD;
        }
        int was = net.ways[i].loss;
        if (was == q) {
            return NO;
        }
        remember();
        net.ways[i].loss = q;
        return was;
    }

    public int believe(int m) {
        if (!isBetween(m, ALL, NOTHING)) {
            return BAD;
        }
        int was = net.rules.belief;
        if (was == m) {
            return NO;
        }
        remember();
        net.rules.belief = m;
        return was;
    }

    public int undo() {
        if (undoable == 0) {
            return NO;
        }
        nextEarlier = nextEarlier == 0 ? MOST_UNDONE - 1 : nextEarlier - 1;
        net.copy(earlier[nextEarlier]);
        undoable--;
        return undoable;
    }

    // ---- ways

    public int way(int i, int what) {
        return isWay(i) ? net.ways[i].tell(what) : BAD;
    }

    public int hop(int i, int h, int what) {
        if (!isHop(i, h) || !isBetween(what, 0, 1)) {
            return BAD;
        }
        return what == 0 ? net.ways[i].limits[h] : net.ways[i].kinds[h];
    }

    public int probe(int i) {
        if (!isWay(i)) {
            return BAD;
        }
        return net.ways[i].isNarrowed() ? NONE : net.ways[i].probeSize();
    }

    public int padding(int i, int c) {
        if (!isWay(i) || !isBetween(c, 0, GREATEST_SIZE)) {
            return BAD;
        }
        if (net.ways[i].isNarrowed()) {
            return NONE;
        }
        int size = net.ways[i].probeSize();
        return c > size ? NO : size - c;
    }

    public int meets(int i, int size, int what) {
        if (!isWay(i) || !isBetween(size, 1, GREATEST_SIZE) || !isBetween(what, 0, 1)) {
            return BAD;
        }
        return what == 0 ? net.ways[i].meeting(size) : net.ways[i].dropper(size);
    }

    public int draw(int i, int k) {
        if (!isWay(i) || !isBetween(k, 0, MOST_DRAWN)) {
            return BAD;
        }
        return net.ways[i].drawn(k, net.rules);
    }

    // ---- ahead

    public int ahead(int n, int i, int what) {
        if (!isBetween(n, 1, MOST_TICKS_AT_ONCE) || !isWay(i) || !isBetween(what, 0, 4)) {
            return BAD;
        }
        startTrial(i, net.rules.belief);
        trial.goOn(n, trialRules);
        switch (what) {
            case 0: return trial.low;
            case 1: return trial.high;
            case 2: return trial.state;
            case 3: return trial.fallen - net.ways[i].fallen;
            default: return trial.lost - net.ways[i].lost;
        }
    }

    public int soon(int i, int m) {
        if (!isWay(i) || !isBetween(m, ALL, NOTHING)) {
            return BAD;
        }
        return ticksUntilFound(i, m);
    }

    public int best(int i) {
        if (!isWay(i)) {
            return BAD;
        }
        int best = NONE;
        int least = MOST_TICKS_AT_ONCE + 1;
        for (int m = ALL; m <= NOTHING; m++) {
            int needed = ticksUntilFound(i, m);
            if (needed != NONE && needed < least) {
                least = needed;
                best = m;
            }
        }
        return best;
    }

    public int count(int what) {
        switch (what) {
            case 0: return net.wayCount;
            case 1: return net.ticks;
            case 2: return net.rules.base;
            case 3: return net.rules.top;
            case 4: return net.rules.age;
            case 5: return net.rules.belief;
            case 6: return net.leastLow();
            case 7: return net.allDone();
            case 8: return net.allSent();
            case 9: return net.allLost();
            case 10: return undoable;
            case 11: return text.length;
            default: return BAD;
        }
    }

    private static boolean isBetween(int number, int least, int most) {
        return number >= least && number <= most;
    }

    private boolean isWay(int i) {
        return i >= 0 && i < net.wayCount;
    }

    private boolean isHop(int i, int h) {
        return isWay(i) && h >= 0 && h < net.ways[i].hops;
    }

    /** The oldest of the kept ones is overwritten: only the last few changes can be undone. */
    private void remember() {
        earlier[nextEarlier].copy(net);
        nextEarlier = nextEarlier == MOST_UNDONE - 1 ? 0 : nextEarlier + 1;
        if (undoable < MOST_UNDONE) {
            undoable++;
        }
    }

    /** Ways do not touch one another, so what is ahead of one can be tried on a copy of it alone. */
    private void startTrial(int i, int belief) {
        trial.copy(net.ways[i]);
        trialRules.copy(net.rules);
        trialRules.belief = belief;
    }

    private int ticksUntilFound(int i, int belief) {
        startTrial(i, belief);
        int sought = trial.sought(trialRules);
        for (int n = 1; n <= MOST_TICKS_AT_ONCE; n++) {
            trial.step(trialRules);
            if (trial.low == sought) {
                return n;
            }
        }
        return NONE;
    }

    /** What all ways have in common. */
    private static final class Rules {
        int base;
        int top;
        int age;
        int belief;
        int draws;

        void clear() {
            base = 60;
            top = 900;
            age = 20;
            belief = CHECKED;
            draws = 0;
        }

        void copy(Rules other) {
            base = other.base;
            top = other.top;
            age = other.age;
            belief = other.belief;
            draws = other.draws;
        }

        boolean trusts(int told, int size) {
            switch (belief) {
                case ALL: return true;
                case CHECKED: return told >= base && told < size;
                default: return false;
            }
        }
    }

    /** One way: its hops, and what has been felt of them. */
    private static final class Way {
        int place;
        int hops;
        final int[] limits = new int[MOST_HOPS];
        final int[] kinds = new int[MOST_HOPS];
        int loss;
        int low;
        int high;
        int state;
        int fails;
        int misses;
        int aged;
        int fallen;
        int sent;
        int lost;
        int trusted;

        void clear(int newPlace) {
            place = newPlace;
            hops = 0;
            loss = 0;
        }

        boolean addHop(int newLimit, int newKind) {
            if (hops >= MOST_HOPS) {
                return false;
            }
            limits[hops] = newLimit;
            kinds[hops] = newKind;
            hops++;
            return true;
        }

        void begin(Rules rules) {
            low = rules.base;
            high = rules.top;
            state = isNarrowed() ? DONE : SEARCHING;
            fails = 0;
            misses = 0;
            aged = 0;
            fallen = 0;
            sent = 0;
            lost = 0;
            trusted = 0;
        }

        void copy(Way other) {
            place = other.place;
            hops = other.hops;
            System.arraycopy(other.limits, 0, limits, 0, MOST_HOPS);
            System.arraycopy(other.kinds, 0, kinds, 0, MOST_HOPS);
            loss = other.loss;
            low = other.low;
            high = other.high;
            state = other.state;
            fails = other.fails;
            misses = other.misses;
            aged = other.aged;
            fallen = other.fallen;
            sent = other.sent;
            lost = other.lost;
            trusted = other.trusted;
        }

        int tell(int what) {
            switch (what) {
                case 0: return low;
                case 1: return high;
                case 2: return state;
                case 3: return fails;
                case 4: return misses;
                case 5: return aged;
                case 6: return fallen;
                case 7: return sent;
                case 8: return lost;
                case 9: return trusted;
                case 10: return passes();
                case 11: return hops;
                case 12: return loss;
                default: return BAD;
            }
        }

        int passes() {
            int least = GREATEST_SIZE;
            for (int h = 0; h < hops; h++) {
                least = Math.min(least, limits[h]);
            }
            return least;
        }

        /** LOW never leaves BASE to TOP, so a way that passes less or more is found at that end. */
        int sought(Rules rules) {
            return Math.max(rules.base, Math.min(rules.top, passes()));
        }

        boolean isNarrowed() {
            return low == high;
        }

        int probeSize() {
            return low + (high - low + 1) / 2;
        }

        /** A long, since the square of what is drawn by is beyond an int. */
        int drawn(int k, Rules rules) {
            long x = 7919L * rules.draws + 6151L * place + 3571L * k + 1L;
            return (int) (x * x % 65521L);
        }

        int dropper(int size) {
            for (int h = 0; h < hops; h++) {
                if (limits[h] < size) {
                    return h;
                }
            }
            return NONE;
        }

        /** ARRIVES, LOST, or TOLD and what is told back, together. */
        int meeting(int size) {
            int h = dropper(size);
            if (h == NONE) {
                return ARRIVES;
            }
            switch (kinds[h]) {
                case TELL: return TOLD + limits[h];
                case WRONG: return TOLD + Math.max(0, limits[h] - WRONG_BY);
                case OLD: return TOLD + size / 2;
                default: return LOST;
            }
        }

        /** Sends a letter; what it meets is answered as by meeting(). */
        int post(int size, Rules rules) {
            boolean crowdedOut = drawn(sent, rules) % 100 < loss;
            int met = crowdedOut ? LOST : meeting(size);
            sent++;
            if (isLost(met, size, rules)) {
                lost++;
            } else if (met >= TOLD) {
                trusted++;
            }
            return met;
        }

        boolean isLost(int met, int size, Rules rules) {
            return met == LOST || met >= TOLD && !rules.trusts(met - TOLD, size);
        }

        void goOn(int ticks, Rules rules) {
            for (int n = 0; n < ticks; n++) {
                step(rules);
            }
        }

        void step(Rules rules) {
            boolean wasDone = state == DONE;
            int lowBefore = low;
            int highBefore = high;
            checkLow(rules);
            boolean moved = low != lowBefore || high != highBefore;
            if (moved) {
                fails = 0;
            }
            if (low < high && (moved || !wasDone)) {
                search(rules);
            } else if (wasDone) {
                growOlder(rules);
            }
            state = isNarrowed() ? DONE : SEARCHING;
            if (state == SEARCHING) {
                aged = 0;
            }
        }

        private void checkLow(Rules rules) {
            int size = low;
            int met = post(size, rules);
            if (isLost(met, size, rules)) {
                miss(rules);
                return;
            }
            misses = 0;
            if (met >= TOLD) {
                int told = met - TOLD;
                if (told < low) {
                    low = Math.max(told, rules.base);
                }
                lowerHigh(told);
            }
        }

        private void miss(Rules rules) {
            misses++;
            if (misses < LOSSES_THAT_TELL) {
                return;
            }
            misses = 0;
            if (low > rules.base) {
                fallen++;
                high = low - 1;
                low = rules.base;
            }
        }

        private void search(Rules rules) {
            int size = probeSize();
            int met = post(size, rules);
            if (isLost(met, size, rules)) {
                fails++;
                if (fails >= LOSSES_THAT_TELL) {
                    high = size - 1;
                    fails = 0;
                }
                return;
            }
            fails = 0;
            if (met >= TOLD) {
                lowerHigh(met - TOLD);
            } else {
                low = size;
            }
        }

        private void lowerHigh(int told) {
            if (told < high) {
                high = Math.max(told, low);
            }
        }

        private void growOlder(Rules rules) {
            aged++;
            if (aged >= rules.age) {
                aged = 0;
                high = rules.top;
            }
        }
    }

    /** All ways with what they have in common: what a text lays and a change changes. */
    private static final class Net {
        final Rules rules = new Rules();
        final Way[] ways = new Way[MOST_WAYS];
        int wayCount;
        int ticks;

        Net() {
            for (int i = 0; i < MOST_WAYS; i++) {
                ways[i] = new Way();
            }
        }

        void copy(Net other) {
            rules.copy(other.rules);
            for (int i = 0; i < other.wayCount; i++) {
                ways[i].copy(other.ways[i]);
            }
            wayCount = other.wayCount;
            ticks = other.ticks;
        }

        int leastLow() {
            int least = GREATEST_SIZE;
            for (int i = 0; i < wayCount; i++) {
                least = Math.min(least, ways[i].low);
            }
            return least;
        }

        int allDone() {
            int all = 0;
            for (int i = 0; i < wayCount; i++) {
                all += ways[i].state == DONE ? 1 : 0;
            }
            return all;
        }

        int allSent() {
            int all = 0;
            for (int i = 0; i < wayCount; i++) {
                all += ways[i].sent;
            }
            return all;
        }

        int allLost() {
            int all = 0;
            for (int i = 0; i < wayCount; i++) {
                all += ways[i].lost;
            }
            return all;
        }

        /** Answers the place of the first fault, or NONE; with a fault, what stands here is of no use. */
        int read(Text text) {
            rules.clear();
            wayCount = 0;
            ticks = 0;
            text.at = 0;
            for (int n = 0; n < MOST_LETTERS && text.at < text.length; n++) {
                int start = text.at;
                if (!readItem(text) || !text.take(";")) {
                    return start;
                }
            }
            // only the last base and top of the text count, so the ways begin behind all of it
            for (int i = 0; i < wayCount; i++) {
                ways[i].begin(rules);
            }
            return NONE;
        }

        private boolean readItem(Text text) {
            if (text.take("way")) {
                return addWay();
            }
            if (text.take("hop ")) {
                return readHop(text);
            }
            if (text.take("loss ")) {
                return readLoss(text);
            }
            return readRule(text);
        }

        private boolean addWay() {
            if (wayCount >= MOST_WAYS) {
                return false;
            }
            ways[wayCount].clear(wayCount);
            wayCount++;
            return true;
        }

        private boolean readHop(Text text) {
            int newLimit = text.takeNumber(LEAST_LIMIT, GREATEST_SIZE);
            if (wayCount == 0 || newLimit == NONE || !text.take(" ")) {
                return false;
            }
            int newKind = text.takeKind();
            return newKind != NONE && ways[wayCount - 1].addHop(newLimit, newKind);
        }

        private boolean readLoss(Text text) {
            int newLoss = text.takeNumber(0, MOST_LOSS);
            if (wayCount == 0 || newLoss == NONE) {
                return false;
            }
            ways[wayCount - 1].loss = newLoss;
            return true;
        }

        private boolean readRule(Text text) {
            if (text.take("base ")) {
                rules.base = text.takeNumber(20, 200);
                return rules.base != NONE;
            }
            if (text.take("top ")) {
                rules.top = text.takeNumber(200, 999);
                return rules.top != NONE;
            }
            if (text.take("age ")) {
                rules.age = text.takeNumber(1, 99);
                return rules.age != NONE;
            }
            if (text.take("believe ")) {
                rules.belief = text.takeBelief();
                return rules.belief != NONE;
            }
            if (text.take("draws ")) {
                rules.draws = text.takeNumber(0, 9999);
                return rules.draws != NONE;
            }
            return false;
        }
    }

    /** The letters that are written, and the place up to which they are read. */
    private static final class Text {
        final char[] letters = new char[MOST_LETTERS];
        int length;
        int at;

        void append(char letter) {
            if (length < MOST_LETTERS) {
                letters[length] = letter;
                length++;
            }
        }

        /** Goes behind the word, if just that stands here; else stays. */
        boolean take(String word) {
            int behind = at + word.length();
            if (behind > length) {
                return false;
            }
            for (int n = 0; n < word.length(); n++) {
                if (letters[at + n] != word.charAt(n)) {
                    return false;
                }
            }
            at = behind;
            return true;
        }

        /** A figure too many is left standing, where the one who reads wants a blank or a ; then. */
        int takeNumber(int least, int most) {
            int number = 0;
            int figures = 0;
            while (figures < MOST_FIGURES && at < length && letters[at] >= '0' && letters[at] <= '9') {
                number = number * 10 + (letters[at] - '0');
                at++;
                figures++;
            }
            return figures > 0 && isBetween(number, least, most) ? number : NONE;
        }

        int takeKind() {
            if (take("tell")) {
                return TELL;
            }
            if (take("wrong")) {
                return WRONG;
            }
            if (take("old")) {
                return OLD;
            }
            return take("silent") ? SILENT : NONE;
        }

        int takeBelief() {
            if (take("all")) {
                return ALL;
            }
            if (take("checked")) {
                return CHECKED;
            }
            return take("none") ? NOTHING : NONE;
        }
    }
}
