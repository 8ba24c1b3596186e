/**
 * A lamp whose spirit does each wish to the letter.
 *
 * A set of worlds is one long: bit w stands for world w. There are 64 worlds at most, so a clause, the law
 * and all that keeps a wish are one number each, and no call but image makes an object (two in all).
 */
public final class WishLamp {
    public static final int NONE = -6, UNKNOWN = -1, OUTSIDE = -2, STATE = -3, FULL = -4, NO = -5;
    public static final long LOST = -1000000000000000000L;

    private static final int LEAST_THINGS = 2, FIRST_THINGS = 4, MOST_THINGS = 6;
    private static final int MOST_WORLDS = 64, MOST_TERMS = 729, COUSINS = 4, ALL_SIXTHS = 6;
    private static final int MOST_SIGNS = 40, CLAUSE_SIGNS = 24;
    private static final int MOST_PAST = 16, MOST_SIGHTS = 6, IMAGES = 2;
    private static final int MOST_WORTH = 9, MOST_GOAL = 99, MOST_WISHES = 3;
    private static final int MOST_SEED = 9999, MOST_YEAR = 99;
    private static final int WAY_TASTE = 1, WAY_NEAR = 2, LAST_WAY = 2;
    private static final int LIFT = 1000;
    /** Above every difference of worths (108 at most), so that a nearer world always comes first. */
    private static final int FAR = 1000;
    /** Above every term's number, so that words come first in a rank. */
    private static final int RANK_STEP = 1000;
    /** Above twice what a world can be worth to all together (216), so that votes come first. */
    private static final int VOTE_STEP = 1000;
    /** Longs for one bit a taste. */
    private static final int FIT_LONGS = 12;
    private static final int[] POWERS = {1, 3, 9, 27, 81, 243, 729};
    private static final int[] JOINTS = {'&', '|', '>', '=', '^'};
    /** The worlds in which a thing is so. */
    private static final long[] SO = {
        0xaaaaaaaaaaaaaaaaL, 0xccccccccccccccccL, 0xf0f0f0f0f0f0f0f0L,
        0xff00ff00ff00ff00L, 0xffff0000ffff0000L, 0xffffffff00000000L};
    /** The worlds in which at most 0, 1, .. 6 things are so. */
    private static final long[] FEW = {
        0x1L, 0x100010117L, 0x101170117177fL, 0x117177f177f7fffL,
        0x177f7fff7fffffffL, 0x7fffffffffffffffL, 0xffffffffffffffffL};

    private final State state = new State();
    private final State[] images = new State[IMAGES];
    private final Clause pad = new Clause();
    private final Clause changed = new Clause();
    private final Terms terms = new Terms();
    private final Spirit spirit = new Spirit(state, terms);
    private final Draw draw = new Draw(state, terms);
    private final Best best = new Best();
    private final int[] values = new int[MOST_WORLDS];
    private final int[] spare = new int[MOST_WORLDS];

    public WishLamp() {
        state.begin(FIRST_THINGS);
        terms.listFor(FIRST_THINGS);
    }

    // ---- 1 worlds, clauses

    public int things(int n) {
        if (n < LEAST_THINGS || n > MOST_THINGS) {
            return OUTSIDE;
        }
        int was = state.things;
        state.begin(n);
        terms.listFor(n);
        return was;
    }

    public int worth(int cousin, int thing, int v) {
        if (!isCousin(cousin) || !isThing(thing)) {
            return UNKNOWN;
        }
        if (v < -MOST_WORTH || v > MOST_WORTH) {
            return OUTSIDE;
        }
        int place = cousin * MOST_THINGS + thing;
        int was = state.worths[place];
        state.worths[place] = v;
        return was + LIFT;
    }

    public int taste(int thing, int v) {
        if (!isThing(thing)) {
            return UNKNOWN;
        }
        if (v < -MOST_WORTH || v > MOST_WORTH) {
            return OUTSIDE;
        }
        int was = state.tastes[thing];
        state.tastes[thing] = v;
        return was + LIFT;
    }

    public int set(int which, int v) {
        if (v < 0) {
            return OUTSIDE;
        }
        int was;
        if (which == 0 && v <= LAST_WAY) {
            was = state.way;
            state.way = v;
        } else if (which == 1 && v < COUSINS) {
            was = state.wisher;
            state.wisher = v;
        } else if (which == 2 && v <= MOST_THINGS) {
            was = state.still;
            state.still = v;
        } else {
            return OUTSIDE;
        }
        return was;
    }

    public int now(int world) {
        if (!isWorld(world)) {
            return OUTSIDE;
        }
        int was = state.here;
        state.here = world;
        state.pastCount = 0;
        return was;
    }

    public int worthOf(int cousin, int world) {
        if (!isCousin(cousin)) {
            return UNKNOWN;
        }
        if (!isWorld(world)) {
            return OUTSIDE;
        }
        return state.worthTo(cousin, world) + LIFT;
    }

    public int say(int sign) {
        if (sign < 33 || sign > 126) {
            return OUTSIDE;
        }
        return pad.write(sign) ? pad.count : FULL;
    }

    public int wipe() {
        return pad.clear();
    }

    public int fault() {
        return pad.firstFault(state.things);
    }

    public int enact() {
        if (isFaulty()) {
            return NO;
        }
        state.law = pad.worldsFrom(state.here) & state.allWorlds();
        return pad.clear();
    }

    // ---- 2 wishes

    public int kept(int i) {
        if (isFaulty()) {
            return NO;
        }
        long worlds = wishWorlds();
        int count = Long.bitCount(worlds);
        if (i == -1) {
            return count;
        }
        if (i < 0 || i >= count) {
            return NONE;
        }
        long left = worlds;
        for (int k = 0; k < i; k++) {
            left &= left - 1;
        }
        return lowestOf(left);
    }

    public int makes() {
        return wishOutcome();
    }

    public int extreme(int cousin, int which, int what) {
        int refusal = refusalOf(isCousin(cousin), isBit(which) && isBit(what));
        if (refusal < 0) {
            return refusal;
        }
        int sign = which == 0 ? 1 : -1;
        fillSums(state.worths, cousin * MOST_THINGS, sign, values);
        int world = leastOf(wishWorlds(), values, 0, 0);
        if (world < 0) {
            return STATE;
        }
        return what == 0 ? sign * values[world] + LIFT : world;
    }

    public int harmed() {
        int made = wishOutcome();
        if (made < 0) {
            return made;
        }
        int who = 0;
        for (int c = 0; c < COUSINS; c++) {
            if (gainOf(c, made) < 0) {
                who |= 1 << c;
            }
        }
        return who;
    }

    public int grant() {
        int made = wishOutcome();
        if (made < 0) {
            return made;
        }
        state.remember(state.here);
        state.here = made;
        pad.clear();
        return made;
    }

    public int undo() {
        if (state.pastCount <= 0 || state.pastCount > MOST_PAST) {
            return STATE;
        }
        state.pastCount--;
        state.here = state.past[state.pastCount];
        return state.here;
    }

    public int comma(int what) {
        if (what < 0 || what > 2) {
            return OUTSIDE;
        }
        if (isFaulty()) {
            return NO;
        }
        spirit.ready();
        best.clear();
        // No change touches a letter, so what is said, and with it what may stir, is the same for all.
        long free = state.law & state.stillWorlds(pad.saidThings(), state.here);
        for (int i = 0; i < pad.count; i++) {
            tryPlace(i, free);
        }
        if (!best.found) {
            return NONE;
        }
        int place = best.rank / RANK_STEP;
        if (what == 0) {
            return place;
        }
        return what == 1 ? signPut(place, best.rank % RANK_STEP) : best.value + LIFT;
    }

    // ---- 3 terms, rows

    public int term(int number) {
        if (number < 0 || number >= terms.count) {
            return OUTSIDE;
        }
        spirit.ready();
        return spirit.ofTerm(number, state.here);
    }

    public int wording(int goal, int what) {
        if (goal < -MOST_GOAL || goal > MOST_GOAL || !isBit(what)) {
            return OUTSIDE;
        }
        spirit.ready();
        best.clear();
        for (int t = 0; t < terms.count; t++) {
            int made = spirit.ofTerm(t, state.here);
            if (made >= 0 && spirit.worths[made] >= goal) {
                best.offer(0, terms.rankOf(t));
            }
        }
        if (!best.found) {
            return NONE;
        }
        return what == 0 ? best.rank % RANK_STEP : best.rank / RANK_STEP;
    }

    public int most(int words, int what) {
        if (!isWords(words) || !isBit(what)) {
            return OUTSIDE;
        }
        spirit.ready();
        best.clear();
        for (int t = 0; t < terms.count; t++) {
            int made = terms.wordsOf(t) <= words ? spirit.ofTerm(t, state.here) : NONE;
            if (made >= 0) {
                best.offer(spirit.worths[made], terms.rankOf(t));
            }
        }
        if (!best.found) {
            return NONE;
        }
        return what == 0 ? best.value + LIFT : best.rank % RANK_STEP;
    }

    public int row(int k, int words, int what) {
        if (k < 1 || k > MOST_WISHES || !isWords(words) || !isBit(what)) {
            return OUTSIDE;
        }
        fillSums(state.worths, state.wisher * MOST_THINGS, 1, values);
        for (int i = 1; i < k; i++) {
            draw.drawUp(values, words, NONE);
            System.arraycopy(values, 0, spare, 0, MOST_WORLDS);
            follow(spare);
        }
        return firstOfRow(words, what);
    }

    public int lamps(int cousin, int words, int what) {
        if (!isCousin(cousin) || cousin == state.wisher) {
            return UNKNOWN;
        }
        if (!isWords(words) || !isBit(what)) {
            return OUTSIDE;
        }
        fillSums(state.worths, cousin * MOST_THINGS, 1, values);
        draw.drawUp(values, words, NONE);
        fillSums(state.worths, state.wisher * MOST_THINGS, 1, spare);
        follow(spare);
        return firstOfRow(words, what);
    }

    // ---- 4 cousins, tastes, letters

    public int sixths(int a, int b, int c, int d) {
        if (!isShare(a) || !isShare(b) || !isShare(c) || !isShare(d) || a + b + c + d != ALL_SIXTHS) {
            return OUTSIDE;
        }
        state.shares[0] = a;
        state.shares[1] = b;
        state.shares[2] = c;
        state.shares[3] = d;
        return 1;
    }

    public int votes() {
        int made = wishOutcome();
        return made < 0 ? made : votesFor(made);
    }

    public int agreed(int what) {
        if (!isBit(what)) {
            return OUTSIDE;
        }
        spirit.ready();
        best.clear();
        fillMerits();
        for (int t = 0; t < terms.count; t++) {
            int made = spirit.ofTerm(t, state.here);
            if (made >= 0) {
                best.offer(values[made], terms.rankOf(t));
            }
        }
        if (!best.found) {
            return NONE;
        }
        return what == 0 ? best.rank % RANK_STEP : best.value / VOTE_STEP;
    }

    public int paid() {
        int made = wishOutcome();
        if (made < 0) {
            return made;
        }
        int gained = 0;
        int lost = 0;
        for (int c = 0; c < COUSINS; c++) {
            int gain = state.shares[c] > 0 ? gainOf(c, made) : 0;
            if (gain > 0) {
                gained += gain;
            } else {
                lost -= gain;
            }
        }
        return gained < lost ? NONE : lost;
    }

    public int picked(int world) {
        if (!isWorld(world)) {
            return OUTSIDE;
        }
        if (isFaulty()) {
            return NO;
        }
        long worlds = wishWorlds();
        if ((worlds >>> world & 1L) == 0L) {
            return NO;
        }
        if (state.pickedCount >= MOST_SIGHTS) {
            return FULL;
        }
        // What is picked is judged at once: later tellings need no more than the tastes that are left.
        for (int number = 0; number < terms.count; number++) {
            if (state.canFit(number) && !terms.tasteTakes(number, worlds, world)) {
                state.ruleOut(number);
            }
        }
        state.pickedCount++;
        return state.pickedCount;
    }

    public int fit(int thing) {
        if (thing < -2 || thing >= state.things) {
            return UNKNOWN;
        }
        int count = 0;
        int least = NONE;
        int digits = 0;
        for (int number = terms.count - 1; number >= 0; number--) {
            if (state.canFit(number)) {
                count++;
                least = number;
                digits |= thing < 0 ? 0 : 1 << terms.digitOf(number, thing);
            }
        }
        if (thing == -1) {
            return count;
        }
        return thing == -2 ? least : digits;
    }

    public int came(int from, int to) {
        if (!isWorld(from) || !isWorld(to)) {
            return OUTSIDE;
        }
        int count = state.cameCount;
        if (count < 0 || count >= MOST_SIGHTS) {
            return FULL;
        }
        state.cameFrom[count] = from;
        state.cameTo[count] = to;
        state.cameCount = count + 1;
        return state.cameCount;
    }

    public int letters(int what) {
        if (!isBit(what)) {
            return OUTSIDE;
        }
        spirit.ready();
        best.clear();
        int count = 0;
        for (int t = 0; t < terms.count; t++) {
            if (spirit.didAll(t)) {
                count++;
                best.offer(0, terms.rankOf(t));
            }
        }
        if (what == 0) {
            return count;
        }
        return best.found ? best.rank % RANK_STEP : NONE;
    }

    public int forget() {
        int were = state.pickedCount + state.cameCount;
        state.forgetSights();
        return were;
    }

    public long drunk(int thing, int part) {
        int refusal = refusalOf(isThing(thing), isBit(part));
        if (refusal < 0) {
            return LOST + refusal;
        }
        long worlds = wishWorlds();
        return partOf(Long.bitCount(worlds & SO[thing]), Long.bitCount(worlds), part);
    }

    public long mean(int cousin, int part) {
        int refusal = refusalOf(isCousin(cousin), isBit(part));
        if (refusal < 0) {
            return LOST + refusal;
        }
        long worlds = wishWorlds();
        int count = Long.bitCount(worlds);
        int sum = LIFT * count;
        for (int i = 0; i < MOST_THINGS; i++) {
            sum += state.worths[cousin * MOST_THINGS + i] * Long.bitCount(worlds & SO[i]);
        }
        return partOf(sum, count, part);
    }

    public int year(int seed, int m, int what) {
        if (seed < 0 || seed > MOST_SEED || m < 1 || m > MOST_YEAR || what < 0 || what > 2) {
            return OUTSIDE;
        }
        spirit.ready();
        // There are terms always; a divisor is looked at all the same.
        int count = terms.count > 0 ? terms.count : 1;
        int x = seed;
        int world = state.here;
        int voids = 0;
        int harms = 0;
        for (int i = 0; i < m; i++) {
            x = (75 * x + 74) % 65537;
            int made = spirit.ofTerm(x % count, world);
            if (made < 0) {
                voids++;
            } else {
                harms += spirit.worths[made] < spirit.worths[world] ? 1 : 0;
                world = made;
            }
        }
        if (what == 0) {
            return voids;
        }
        return what == 1 ? world : harms;
    }

    public int image(int n) {
        if (n < 0 || n >= IMAGES) {
            return OUTSIDE;
        }
        State image = images[n];
        if (image == null) {
            image = new State();
            images[n] = image;
        }
        image.copyFrom(state);
        return 1;
    }

    public int restore(int n) {
        if (n < 0 || n >= IMAGES) {
            return OUTSIDE;
        }
        State image = images[n];
        if (image == null) {
            return STATE;
        }
        state.copyFrom(image);
        terms.listFor(state.things);
        return 1;
    }

    public int told(int what) {
        if (what < 0 || what > 69) {
            return OUTSIDE;
        }
        if (what < 10) {
            return toldPlain(what);
        }
        int tens = what / 10;
        int ones = what % 10;
        if (tens == 1) {
            return isThing(ones) ? state.tastes[ones] + LIFT : OUTSIDE;
        }
        if (tens == 2) {
            return isCousin(ones) ? state.shares[ones] : OUTSIDE;
        }
        int cousin = tens - 3;
        if (!isCousin(cousin) || !isThing(ones)) {
            return OUTSIDE;
        }
        return state.worths[cousin * MOST_THINGS + ones] + LIFT;
    }

    // ---- what the calls above are made of

    private int toldPlain(int what) {
        switch (what) {
            case 0: return pad.count;
            case 1: return state.things;
            case 2: return state.here;
            case 3: return state.way;
            case 4: return state.wisher;
            case 5: return state.still;
            case 6: return state.pastCount;
            case 7: return state.pickedCount;
            case 8: return state.cameCount;
            default: return Long.bitCount(state.law);
        }
    }

    private static boolean isCousin(int cousin) {
        return cousin >= 0 && cousin < COUSINS;
    }

    private boolean isThing(int thing) {
        return thing >= 0 && thing < state.things;
    }

    private boolean isWorld(int world) {
        return world >= 0 && world < state.worldCount();
    }

    private static boolean isBit(int number) {
        return number == 0 || number == 1;
    }

    private static boolean isWords(int words) {
        return words >= 0 && words <= MOST_THINGS;
    }

    private static boolean isShare(int sixths) {
        return sixths >= 0 && sixths <= ALL_SIXTHS;
    }

    private boolean isFaulty() {
        return pad.firstFault(state.things) != NONE;
    }

    private long wishWorlds() {
        return pad.worldsFrom(state.here) & state.law & state.stillWorlds(pad.saidThings(), state.here);
    }

    /** Why a call about the wish on the pad is refused, in the document's order; 0 if it is not. */
    private int refusalOf(boolean isKnown, boolean isInside) {
        if (!isKnown) {
            return UNKNOWN;
        }
        if (!isInside) {
            return OUTSIDE;
        }
        if (isFaulty()) {
            return NO;
        }
        return wishWorlds() == 0L ? STATE : 0;
    }

    /** What the spirit makes of the wish on the pad; NO or STATE where it makes nothing. */
    private int wishOutcome() {
        if (isFaulty()) {
            return NO;
        }
        spirit.ready();
        return spirit.outcome(wishWorlds(), state.here);
    }

    private int gainOf(int cousin, int world) {
        return state.worthTo(cousin, world) - state.worthTo(cousin, state.here);
    }

    private int votesFor(int world) {
        int sum = 0;
        for (int c = 0; c < COUSINS; c++) {
            sum += gainOf(c, world) > 0 ? state.shares[c] : 0;
        }
        return sum;
    }

    /** One number a world: votes first, then what it is worth to all (from -216 to 216, lifted above 0). */
    private void fillMerits() {
        for (int w = 0; w < state.worldCount(); w++) {
            int together = 0;
            for (int c = 0; c < COUSINS; c++) {
                together += state.worthTo(c, w);
            }
            values[w] = votesFor(w) * VOTE_STEP + VOTE_STEP / 2 + together;
        }
    }

    private void tryPlace(int place, long free) {
        if (pad.signs[place] == '-') {
            tryChange(place, 0, free);
        } else if (orderOf(pad.signs[place]) >= 0) {
            for (int order = 0; order < JOINTS.length; order++) {
                tryChange(place, order, free);
            }
        }
    }

    private void tryChange(int place, int order, long free) {
        changed.copyChanged(pad, place, signPut(place, order));
        int made = spirit.outcome(changed.worldsFrom(state.here) & free, state.here);
        if (made >= 0) {
            best.offer(spirit.worths[made], place * RANK_STEP + order);
        }
    }

    /** The sign that a change puts at a place: 0 where a - is left out. */
    private int signPut(int place, int order) {
        if (place < 0 || place >= MOST_SIGNS || order < 0 || order >= JOINTS.length) {
            return 0;
        }
        return pad.signs[place] == '-' ? 0 : JOINTS[order];
    }

    /** Each world's value becomes that of the world that comes out when a wish is drawn up there. */
    private void follow(int[] ends) {
        for (int w = 0; w < MOST_WORLDS; w++) {
            values[w] = ends[draw.worlds[w]];
        }
    }

    private int firstOfRow(int words, int what) {
        draw.drawUp(values, words, state.here);
        if (what == 0) {
            return values[draw.worlds[state.here]] + LIFT;
        }
        int rank = draw.ranks[state.here];
        return rank < 0 ? NONE : rank % RANK_STEP;
    }

    private static long partOf(int upper, int lower, int part) {
        int a = upper;
        int b = lower;
        // Euclid's steps for ints are fewer than 50.
        for (int i = 0; i < 64 && b != 0; i++) {
            int rest = a % b;
            a = b;
            b = rest;
        }
        if (a == 0) {
            return 0L;
        }
        return part == 0 ? upper / a : lower / a;
    }

    /** The place of a sign among those that join two parts; -1 if it is none. */
    private static int orderOf(int sign) {
        for (int i = 0; i < JOINTS.length; i++) {
            if (JOINTS[i] == sign) {
                return i;
            }
        }
        return -1;
    }

    private static int lowestOf(long worlds) {
        // The mask is for the set of no worlds, of which nobody asks.
        return Long.bitCount((worlds & -worlds) - 1L) & (MOST_WORLDS - 1);
    }

    /** The sum over what is so, for each world, from the world with one thing less. */
    private static void fillSums(int[] each, int first, int sign, int[] sums) {
        sums[0] = 0;
        for (int w = 1; w < MOST_WORLDS; w++) {
            int thing = Integer.bitCount((w & -w) - 1);
            sums[w] = sums[w & (w - 1)] + sign * each[first + thing];
        }
    }

    /** The first world of the least score, each thing that is otherwise than from adding far; STATE: no world. */
    private static int leastOf(long worlds, int[] scores, int from, int far) {
        int least = STATE;
        int leastScore = 0;
        long left = worlds;
        for (int k = Long.bitCount(worlds); k > 0; k--) {
            int w = lowestOf(left);
            left &= left - 1L;
            int score = scores[w] + far * Integer.bitCount(w ^ from);
            if (least < 0 || score < leastScore) {
                least = w;
                leastScore = score;
            }
        }
        return least;
    }

    /** All that an image keeps. */
    private static final class State {
        int things;
        int here;
        int way;
        int wisher;
        int still;
        long law;
        final int[] worths = new int[COUSINS * MOST_THINGS];
        final int[] tastes = new int[MOST_THINGS];
        final int[] shares = new int[COUSINS];
        final int[] past = new int[MOST_PAST];
        int pastCount;
        /** One bit a taste: whether all that was picked is so by it. Bits beyond the last taste mean nothing. */
        final long[] fitting = new long[FIT_LONGS];
        int pickedCount;
        final int[] cameFrom = new int[MOST_SIGHTS];
        final int[] cameTo = new int[MOST_SIGHTS];
        int cameCount;

        void begin(int n) {
            things = n;
            here = 0;
            way = 0;
            wisher = 0;
            still = MOST_THINGS;
            law = allWorlds();
            for (int i = 0; i < worths.length; i++) {
                worths[i] = 0;
            }
            for (int i = 0; i < MOST_THINGS; i++) {
                tastes[i] = 0;
            }
            for (int c = 0; c < COUSINS; c++) {
                shares[c] = c == 0 ? ALL_SIXTHS : 0;
            }
            pastCount = 0;
            forgetSights();
        }

        void forgetSights() {
            pickedCount = 0;
            cameCount = 0;
            for (int i = 0; i < FIT_LONGS; i++) {
                fitting[i] = -1L;
            }
        }

        void copyFrom(State other) {
            things = other.things;
            here = other.here;
            way = other.way;
            wisher = other.wisher;
            still = other.still;
            law = other.law;
            System.arraycopy(other.worths, 0, worths, 0, COUSINS * MOST_THINGS);
            System.arraycopy(other.tastes, 0, tastes, 0, MOST_THINGS);
            System.arraycopy(other.shares, 0, shares, 0, COUSINS);
            System.arraycopy(other.past, 0, past, 0, MOST_PAST);
            pastCount = other.pastCount;
            System.arraycopy(other.fitting, 0, fitting, 0, FIT_LONGS);
            pickedCount = other.pickedCount;
            System.arraycopy(other.cameFrom, 0, cameFrom, 0, MOST_SIGHTS);
            System.arraycopy(other.cameTo, 0, cameTo, 0, MOST_SIGHTS);
            cameCount = other.cameCount;
        }

        int worldCount() {
            return 1 << things;
        }

        long allWorlds() {
            return things >= MOST_THINGS ? -1L : (1L << worldCount()) - 1L;
        }

        int worthTo(int cousin, int world) {
            int sum = 0;
            for (int i = 0; i < MOST_THINGS; i++) {
                sum += (world >> i & 1) * worths[cousin * MOST_THINGS + i];
            }
            return sum;
        }

        /** The worlds in which no more things stir than may, of those that are not said. */
        long stillWorlds(int said, int from) {
            long worlds = 0L;
            for (int w = 0; w < worldCount(); w++) {
                if (Integer.bitCount((w ^ from) & ~said) <= still) {
                    worlds |= 1L << w;
                }
            }
            return worlds;
        }

        void remember(int world) {
            if (pastCount >= MOST_PAST) {
                System.arraycopy(past, 1, past, 0, MOST_PAST - 1);
                pastCount = MOST_PAST - 1;
            }
            past[pastCount] = world;
            pastCount++;
        }

        boolean canFit(int number) {
            return (fitting[number >> 6] >>> (number & 63) & 1L) != 0L;
        }

        void ruleOut(int number) {
            fitting[number >> 6] &= ~(1L << (number & 63));
        }
    }

    /** Signs, and what they say if there is no fault in them. */
    private static final class Clause {
        final int[] signs = new int[MOST_SIGNS];
        int count;
        private final long[] parts = new long[CLAUSE_SIGNS];

        boolean write(int sign) {
            if (count < 0 || count >= MOST_SIGNS) {
                return false;
            }
            signs[count] = sign;
            count++;
            return true;
        }

        int clear() {
            int were = count;
            count = 0;
            return were;
        }

        /** A 0 put in the place of a sign leaves it out. */
        void copyChanged(Clause other, int place, int sign) {
            count = 0;
            for (int i = 0; i < other.count; i++) {
                if (i != place) {
                    write(other.signs[i]);
                } else if (sign != 0) {
                    write(sign);
                }
            }
        }

        int firstFault(int things) {
            int due = 1;
            boolean letterDue = false;
            for (int i = 0; i < count; i++) {
                int sign = signs[i];
                boolean isLetter = sign >= 'a' && sign < 'a' + things;
                if (i >= CLAUSE_SIGNS || due == 0 || letterDue && !isLetter) {
                    return i;
                }
                letterDue = sign == '~';
                if (isLetter || sign == '0' || sign == '1') {
                    due--;
                } else if (orderOf(sign) >= 0) {
                    due++;
                } else if (sign != '-' && sign != '~') {
                    return i;
                }
            }
            return due == 0 ? NONE : count;
        }

        int saidThings() {
            int said = 0;
            for (int i = 0; i < count; i++) {
                int thing = signs[i] - 'a';
                if (thing >= 0 && thing < MOST_THINGS) {
                    said |= 1 << thing;
                }
            }
            return said;
        }

        /** From the last sign back, as each sign's parts are then at hand. */
        long worldsFrom(int here) {
            int top = 0;
            for (int i = count - 1; i >= 0; i--) {
                int sign = signs[i];
                int order = orderOf(sign);
                if (order >= 0) {
                    if (top >= 2) {
                        top--;
                        parts[top - 1] = joined(order, parts[top], parts[top - 1]);
                    }
                } else if (sign == '-' || sign == '~') {
                    if (top >= 1 && (sign == '-' || !isSoAt(i + 1, here))) {
                        parts[top - 1] = ~parts[top - 1];
                    }
                } else if (top < CLAUSE_SIGNS) {
                    parts[top] = leafWorlds(sign);
                    top++;
                }
            }
            return top == 1 ? parts[0] : 0L;
        }

        private boolean isSoAt(int place, int here) {
            int thing = place < count ? signs[place] - 'a' : 0;
            return thing >= 0 && thing < MOST_THINGS && (here >> thing & 1) != 0;
        }

        private static long leafWorlds(int sign) {
            int thing = sign - 'a';
            if (thing >= 0 && thing < MOST_THINGS) {
                return SO[thing];
            }
            return sign == '1' ? -1L : 0L;
        }

        private static long joined(int order, long first, long second) {
            switch (order) {
                case 0: return first & second;
                case 1: return first | second;
                case 2: return ~first | second;
                case 3: return ~(first ^ second);
                default: return first ^ second;
            }
        }
    }

    /** What each term says, by its number. */
    private static final class Terms {
        int count;
        final int[] said = new int[MOST_TERMS];
        final int[] so = new int[MOST_TERMS];
        /** The worlds that are as it says, of all that six things would have. */
        final long[] worlds = new long[MOST_TERMS];
        /** For a set of things, the term that says of each that it is so. */
        private final int[] weights = new int[MOST_WORLDS];

        void listFor(int things) {
            if (things < LEAST_THINGS || things > MOST_THINGS || count == POWERS[things]) {
                return;
            }
            count = POWERS[things];
            said[0] = 0;
            so[0] = 0;
            worlds[0] = -1L;
            for (int i = 0; i < things; i++) {
                // From the last one back, as each one's stem is still that of one thing less then.
                for (int t = POWERS[i + 1] - 1; t >= 0; t--) {
                    int stem = t / 3;
                    int digit = t % 3;
                    said[t] = said[stem] | (digit != 0 ? 1 << i : 0);
                    so[t] = so[stem] | (digit == 1 ? 1 << i : 0);
                    worlds[t] = worlds[stem] & (digit == 0 ? -1L : digit == 1 ? SO[i] : ~SO[i]);
                }
            }
            for (int t = 0; t < count; t++) {
                if (said[t] == so[t]) {
                    weights[so[t]] = t;
                }
            }
        }

        int digitOf(int number, int thing) {
            if ((said[number] >> thing & 1) == 0) {
                return 0;
            }
            return (so[number] >> thing & 1) != 0 ? 1 : 2;
        }

        int wordsOf(int term) {
            return Integer.bitCount(said[term]);
        }

        /** The lesser one goes first: fewest words, then the least number. */
        int rankOf(int term) {
            return wordsOf(term) * RANK_STEP + term;
        }

        /** A digit is 2 where not so is said: twice the weights, less those that are so. */
        int rankFor(int saidThings, int soThings) {
            return Integer.bitCount(saidThings) * RANK_STEP + 2 * weights[saidThings] - weights[soThings];
        }

        /** Whether a spirit of this taste takes this world of these: digits 0, 1, 2 stand for -1, 0, 1. */
        boolean tasteTakes(int number, long among, int world) {
            int liked = said[number] & ~so[number];
            int hated = ~said[number];
            int joy = Integer.bitCount(world & liked) - Integer.bitCount(world & hated);
            long left = among;
            for (int k = Long.bitCount(among); k > 0; k--) {
                int w = lowestOf(left);
                left &= left - 1L;
                int other = Integer.bitCount(w & liked) - Integer.bitCount(w & hated);
                if (other > joy || other == joy && w < world) {
                    return false;
                }
            }
            return true;
        }
    }

    /** What the spirit makes of wishes, by its way. */
    private static final class Spirit {
        private final State state;
        private final Terms terms;
        /** What each world is worth to the wisher. */
        final int[] worths = new int[MOST_WORLDS];
        private final int[] scores = new int[MOST_WORLDS];

        Spirit(State state, Terms terms) {
            this.state = state;
            this.terms = terms;
        }

        /** To be called ahead of the others, whenever worths, tastes or the wisher may have changed. */
        void ready() {
            fillSums(state.worths, state.wisher * MOST_THINGS, 1, worths);
            if (state.way == WAY_TASTE) {
                fillSums(state.tastes, 0, -1, scores);
            } else {
                System.arraycopy(worths, 0, scores, 0, MOST_WORLDS);
            }
        }

        int outcome(long worlds, int from) {
            return leastOf(worlds, scores, from, state.way == WAY_NEAR ? FAR : 0);
        }

        int ofTerm(int term, int from) {
            return outcome(termWorlds(term, from), from);
        }

        boolean didAll(int term) {
            for (int i = 0; i < state.cameCount; i++) {
                if (ofTerm(term, state.cameFrom[i]) != state.cameTo[i]) {
                    return false;
                }
            }
            return true;
        }

        private long termWorlds(int term, int from) {
            long worlds = terms.worlds[term] & state.law;
            int said = terms.said[term];
            if (state.still < state.things - Integer.bitCount(said)) {
                // All these worlds agree in what is said: they are as far from this aim as the rest has stirred.
                int aim = (from & ~said) | terms.so[term];
                worlds &= movedBy(FEW[state.still], aim);
            }
            return worlds;
        }

        private static long movedBy(long worlds, int by) {
            long moved = worlds;
            for (int i = 0; i < MOST_THINGS; i++) {
                if ((by >> i & 1) != 0) {
                    moved = (moved & SO[i]) >>> (1 << i) | (moved & ~SO[i]) << (1 << i);
                }
            }
            return moved;
        }
    }

    /**
     * One wish of a row, drawn up in each world at once. What keeps a term hangs on what is said and on the aim
     * (the world in which all that is said is done and nothing else has stirred) alone, so that each pair of
     * these is looked at once, not once for each world from which it can be aimed at.
     */
    private static final class Draw {
        private final State state;
        private final Terms terms;
        /** For each world: the rank of the best term there (NONE: all are void), the world that comes out. */
        final int[] ranks = new int[MOST_WORLDS];
        final int[] worlds = new int[MOST_WORLDS];
        /** The same among the terms that say certain things, for each state of the others. */
        private final int[] partRanks = new int[MOST_WORLDS];
        private final int[] partWorlds = new int[MOST_WORLDS];
        private final int[] stirs = new int[MOST_WORLDS];
        private int stirCount;

        Draw(State state, Terms terms) {
            this.state = state;
            this.terms = terms;
        }

        /** Where only is a world, the other worlds' wishes are not drawn up in full. */
        void drawUp(int[] values, int words, int only) {
            for (int w = 0; w < MOST_WORLDS; w++) {
                ranks[w] = NONE;
                worlds[w] = w;
            }
            int count = state.worldCount();
            for (int said = 0; said < count; said++) {
                if (Integer.bitCount(said) <= words) {
                    listStirs(said);
                    drawUpSaying(said, values, only);
                    for (int w = 0; w < count; w++) {
                        takePart(w, w & ~said, values);
                    }
                }
            }
        }

        private void listStirs(int said) {
            stirCount = 0;
            for (int d = 0; d < state.worldCount(); d++) {
                if ((d & said) == 0 && Integer.bitCount(d) <= state.still) {
                    stirs[stirCount] = d;
                    stirCount++;
                }
            }
        }

        private void drawUpSaying(int said, int[] values, int only) {
            int count = state.worldCount();
            for (int w = 0; w < count; w++) {
                partRanks[w] = NONE;
            }
            for (int aim = 0; aim < count; aim++) {
                int rest = aim & ~said;
                int made = only < 0 || rest == (only & ~said) ? worstNear(aim, values) : STATE;
                if (made >= 0) {
                    int rank = terms.rankFor(said, aim & said);
                    if (isBetter(values[made], rank, values[partWorlds[rest]], partRanks[rest])) {
                        partRanks[rest] = rank;
                        partWorlds[rest] = made;
                    }
                }
            }
        }

        private void takePart(int world, int rest, int[] values) {
            int rank = partRanks[rest];
            int made = partWorlds[rest];
            if (rank >= 0 && isBetter(values[made], rank, values[worlds[world]], ranks[world])) {
                ranks[world] = rank;
                worlds[world] = made;
            }
        }

        private int worstNear(int aim, int[] values) {
            int worst = STATE;
            for (int k = 0; k < stirCount; k++) {
                int w = aim ^ stirs[k];
                if ((state.law >>> w & 1L) != 0L
                        && (worst < 0 || values[w] < values[worst] || values[w] == values[worst] && w < worst)) {
                    worst = w;
                }
            }
            return worst;
        }

        private static boolean isBetter(int value, int rank, int thanValue, int thanRank) {
            return thanRank < 0 || value > thanValue || value == thanValue && rank < thanRank;
        }
    }

    /** What has the greatest value, of several the least rank. */
    private static final class Best {
        boolean found;
        int value;
        int rank;

        void clear() {
            found = false;
        }

        void offer(int newValue, int newRank) {
            if (!found || newValue > value || newValue == value && newRank < rank) {
                found = true;
                value = newValue;
                rank = newRank;
            }
        }
    }
}
