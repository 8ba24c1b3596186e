import java.util.ArrayList;
import java.util.Arrays;
import java.util.List;

/**
 * The document once more, word by word and as slowly as it likes: what WishLamp is compared with.
 * It shares no code and no trick with it (lists of worlds, texts, recursion).
 */
final class SlowLamp implements Cloneable {
    static final int NONE = -6, UNKNOWN = -1, OUTSIDE = -2, STATE = -3, FULL = -4, NO = -5;
    static final long LOST = -1000000000000000000L;

    /** All but the pad and the images. */
    private static final class All {
        int n = 4;
        int now = 0;
        int way = 0;
        int wisher = 0;
        int still = 6;
        String law = "1";
        int lawNow = 0;
        int[][] worth = new int[4][6];
        int[] taste = new int[6];
        int[] sixths = {6, 0, 0, 0};
        List<Integer> before = new ArrayList<>();
        List<Integer> pickedWorld = new ArrayList<>();
        List<List<Integer>> pickedAmong = new ArrayList<>();
        List<int[]> came = new ArrayList<>();

        All copy() {
            All c = new All();
            c.n = n;
            c.now = now;
            c.way = way;
            c.wisher = wisher;
            c.still = still;
            c.law = law;
            c.lawNow = lawNow;
            for (int i = 0; i < 4; i++) c.worth[i] = worth[i].clone();
            c.taste = taste.clone();
            c.sixths = sixths.clone();
            c.before = new ArrayList<>(before);
            c.pickedWorld = new ArrayList<>(pickedWorld);
            c.pickedAmong = new ArrayList<>(pickedAmong);
            c.came = new ArrayList<>(came);
            return c;
        }
    }

    private All s = new All();
    private final All[] images = new All[2];
    private String pad = "";

    // ---- terms of the document

    private int[] at = new int[1];

    private boolean part(String text, int world, int now) {
        char c = text.charAt(at[0]++);
        if (c >= 'a' && c <= 'f') return so(world, c - 'a');
        if (c == '~') {
            int thing = text.charAt(at[0]++) - 'a';
            return so(world, thing) == so(now, thing);
        }
        if (c == '0') return false;
        if (c == '1') return true;
        boolean first = part(text, world, now);
        if (c == '-') return !first;
        boolean second = part(text, world, now);
        if (c == '&') return first && second;
        if (c == '|') return first || second;
        if (c == '>') return !first || second;
        if (c == '=') return first == second;
        return first != second;
    }

    private boolean holds(String text, int world, int now) {
        at[0] = 0;
        return part(text, world, now);
    }

    private static boolean so(int world, int thing) {
        return world / (1 << thing) % 2 == 1;
    }

    /** A text that has no fault, or the place of the first one. */
    private int faultOf(String text) {
        for (int i = 0; i < text.length(); i++) {
            if (i == 24 || !canGoOn(text.substring(0, i + 1))) return i;
        }
        return isWhole(text) ? NONE : text.length();
    }

    /** Whether some signs put behind it make it a clause (of whatever length). */
    private boolean canGoOn(String text) {
        String longer = text.endsWith("~") ? text + "a" : text;
        for (int i = 0; i <= text.length() + 1; i++) {
            if (isWhole(longer)) return true;
            longer += "1";
        }
        return false;
    }

    private boolean isWhole(String text) {
        return endOfPart(text, 0) == text.length();
    }

    /** Where the part that begins here ends; -1: there is none. */
    private int endOfPart(String text, int from) {
        if (from < 0 || from >= text.length()) return -1;
        char c = text.charAt(from);
        if (isLetter(c) || c == '0' || c == '1') return from + 1;
        if (c == '~') return from + 1 < text.length() && isLetter(text.charAt(from + 1)) ? from + 2 : -1;
        if (c == '-') return endOfPart(text, from + 1);
        if ("&|>=^".indexOf(c) >= 0) return endOfPart(text, endOfPart(text, from + 1));
        return -1;
    }

    private boolean isLetter(char c) {
        return c >= 'a' && c < 'a' + s.n;
    }

    private int sum(int[] each, int world) {
        int sum = 0;
        for (int i = 0; i < s.n; i++) if (so(world, i)) sum += each[i];
        return sum;
    }

    private int worthTo(int cousin, int world) {
        return sum(s.worth[cousin], world);
    }

    private int otherwise(int a, int b, String except) {
        int count = 0;
        for (int i = 0; i < s.n; i++) {
            if (except.indexOf('a' + i) < 0 && so(a, i) != so(b, i)) count++;
        }
        return count;
    }

    private List<Integer> keep(String text, int now) {
        List<Integer> list = new ArrayList<>();
        for (int w = 0; w < 1 << s.n; w++) {
            if (holds(text, w, now) && holds(s.law, w, s.lawNow) && otherwise(w, now, text) <= s.still) list.add(w);
        }
        return list;
    }

    private int choose(List<Integer> worlds, int now) {
        int best = -1;
        for (int w : worlds) {
            if (best < 0) {
                best = w;
                continue;
            }
            int worse = worthTo(s.wisher, best) - worthTo(s.wisher, w);
            int tastier = sum(s.taste, w) - sum(s.taste, best);
            int nearer = otherwise(best, now, "") - otherwise(w, now, "");
            boolean better = s.way == 0 ? worse > 0 : s.way == 1 ? tastier > 0 : nearer > 0 || nearer == 0 && worse > 0;
            if (better) best = w;
        }
        return best;
    }

    private int pow3() {
        int p = 1;
        for (int i = 0; i < s.n; i++) p *= 3;
        return p;
    }

    private int[] digits(int number) {
        int[] digit = new int[s.n];
        int rest = number;
        for (int i = s.n - 1; i >= 0; i--) {
            digit[i] = rest % 3;
            rest /= 3;
        }
        return digit;
    }

    private String termText(int number) {
        int[] digit = digits(number);
        String text = "1";
        for (int i = 0; i < s.n; i++) {
            char letter = (char) ('a' + i);
            if (digit[i] == 1) text = "&" + letter + text;
            if (digit[i] == 2) text = "&-" + letter + text;
        }
        return text;
    }

    private int words(int number) {
        int count = 0;
        for (int d : digits(number)) if (d != 0) count++;
        return count;
    }

    /** All terms, fewest words first, then the least number. */
    private List<Integer> ordered(int most) {
        List<Integer> list = new ArrayList<>();
        for (int w = 0; w <= most; w++) {
            for (int t = 0; t < pow3(); t++) if (words(t) == w) list.add(t);
        }
        return list;
    }

    private int made(int number, int now) {
        return choose(keep(termText(number), now), now);
    }

    private static boolean in(int v, int low, int high) {
        return v >= low && v <= high;
    }

    private boolean cousin(int c) {
        return in(c, 0, 3);
    }

    private boolean thing(int t) {
        return in(t, 0, s.n - 1);
    }

    private boolean world(int w) {
        return in(w, 0, (1 << s.n) - 1);
    }

    // ---- the face

    int things(int n) {
        if (!in(n, 2, 6)) return OUTSIDE;
        int was = s.n;
        s = new All();
        s.n = n;
        return was;
    }

    int worth(int c, int t, int v) {
        if (!cousin(c) || !thing(t)) return UNKNOWN;
        if (!in(v, -9, 9)) return OUTSIDE;
        int was = s.worth[c][t];
        s.worth[c][t] = v;
        return 1000 + was;
    }

    int taste(int t, int v) {
        if (!thing(t)) return UNKNOWN;
        if (!in(v, -9, 9)) return OUTSIDE;
        int was = s.taste[t];
        s.taste[t] = v;
        return 1000 + was;
    }

    int set(int which, int v) {
        if (!in(which, 0, 2) || !in(v, 0, new int[] {2, 3, 6}[which])) return OUTSIDE;
        int was = new int[] {s.way, s.wisher, s.still}[which];
        if (which == 0) s.way = v;
        if (which == 1) s.wisher = v;
        if (which == 2) s.still = v;
        return was;
    }

    int now(int w) {
        if (!world(w)) return OUTSIDE;
        int was = s.now;
        s.now = w;
        s.before.clear();
        return was;
    }

    int worthOf(int c, int w) {
        if (!cousin(c)) return UNKNOWN;
        if (!world(w)) return OUTSIDE;
        return 1000 + worthTo(c, w);
    }

    int say(int sign) {
        if (!in(sign, 33, 126)) return OUTSIDE;
        if (pad.length() == 40) return FULL;
        pad += (char) sign;
        return pad.length();
    }

    int wipe() {
        int were = pad.length();
        pad = "";
        return were;
    }

    int fault() {
        return faultOf(pad);
    }

    int enact() {
        if (fault() != NONE) return NO;
        s.law = pad;
        s.lawNow = s.now;
        return wipe();
    }

    int kept(int i) {
        if (fault() != NONE) return NO;
        List<Integer> list = keep(pad, s.now);
        if (i == -1) return list.size();
        return i >= 0 && i < list.size() ? list.get(i) : NONE;
    }

    int makes() {
        if (fault() != NONE) return NO;
        int w = choose(keep(pad, s.now), s.now);
        return w < 0 ? STATE : w;
    }

    int extreme(int c, int which, int what) {
        if (!cousin(c)) return UNKNOWN;
        if (!in(which, 0, 1) || !in(what, 0, 1)) return OUTSIDE;
        if (makes() < 0) return makes();
        List<Integer> list = keep(pad, s.now);
        int edge = worthTo(c, list.get(0));
        for (int w : list) edge = which == 0 ? Math.min(edge, worthTo(c, w)) : Math.max(edge, worthTo(c, w));
        if (what == 0) return 1000 + edge;
        for (int w : list) if (worthTo(c, w) == edge) return w;
        throw new IllegalStateException();
    }

    int harmed() {
        int w = makes();
        if (w < 0) return w;
        int bits = 0;
        for (int c = 0; c < 4; c++) if (worthTo(c, w) < worthTo(c, s.now)) bits += 1 << c;
        return bits;
    }

    int grant() {
        int w = makes();
        if (w < 0) return w;
        s.before.add(s.now);
        while (s.before.size() > 16) s.before.remove(0);
        s.now = w;
        pad = "";
        return w;
    }

    int undo() {
        if (s.before.isEmpty()) return STATE;
        s.now = s.before.remove(s.before.size() - 1);
        return s.now;
    }

    int comma(int what) {
        if (!in(what, 0, 2)) return OUTSIDE;
        if (fault() != NONE) return NO;
        int[] best = null;
        for (int i = 0; i < pad.length(); i++) {
            char c = pad.charAt(i);
            String puts = c == '-' ? " " : "&|>=^".indexOf(c) >= 0 ? "&|>=^" : "";
            for (char put : puts.toCharArray()) {
                String text = pad.substring(0, i) + (put == ' ' ? "" : put) + pad.substring(i + 1);
                int w = choose(keep(text, s.now), s.now);
                if (w < 0) continue;
                int v = worthTo(s.wisher, w);
                if (best == null || v > best[2]) best = new int[] {i, put == ' ' ? 0 : put, v};
            }
        }
        if (best == null) return NONE;
        return what == 2 ? best[2] + 1000 : best[what];
    }

    int term(int number) {
        if (!in(number, 0, pow3() - 1)) return OUTSIDE;
        int w = made(number, s.now);
        return w < 0 ? STATE : w;
    }

    int wording(int goal, int what) {
        if (!in(goal, -99, 99) || !in(what, 0, 1)) return OUTSIDE;
        for (int t : ordered(6)) {
            int w = made(t, s.now);
            if (w >= 0 && worthTo(s.wisher, w) >= goal) return what == 0 ? t : words(t);
        }
        return NONE;
    }

    int most(int words, int what) {
        if (!in(words, 0, 6) || !in(what, 0, 1)) return OUTSIDE;
        int best = NONE;
        int value = 0;
        for (int t : ordered(words)) {
            int w = made(t, s.now);
            if (w >= 0 && (best < 0 || worthTo(s.wisher, w) > value)) {
                best = t;
                value = worthTo(s.wisher, w);
            }
        }
        if (best < 0) return NONE;
        return what == 0 ? 1000 + value : best;
    }

    private final int[][] known = new int[4][64];
    private List<Integer> allowed;

    /** What it is worth in the end with k wishes left, the first term kept aside. */
    private int inTheEnd(int k, int now, int[] first) {
        if (k == 0) return worthTo(s.wisher, now);
        if (first == null && known[k][now] != Integer.MIN_VALUE) return known[k][now];
        int term = NONE;
        int value = 0;
        for (int t : allowed) {
            List<Integer> list = keep(termText(t), now);
            if (list.isEmpty()) continue;
            int worst = Integer.MAX_VALUE;
            for (int w : list) worst = Math.min(worst, inTheEnd(k - 1, w, null));
            if (term < 0 || worst > value) {
                term = t;
                value = worst;
            }
        }
        if (term < 0) value = inTheEnd(k - 1, now, null);
        if (first != null) first[0] = term;
        known[k][now] = value;
        return value;
    }

    int row(int k, int words, int what) {
        if (!in(k, 1, 3) || !in(words, 0, 6) || !in(what, 0, 1)) return OUTSIDE;
        for (int[] level : known) Arrays.fill(level, Integer.MIN_VALUE);
        allowed = ordered(words);
        int[] first = new int[1];
        int value = inTheEnd(k, s.now, first);
        return what == 0 ? 1000 + value : first[0];
    }

    /** What comes of the second cousin's wish. */
    private int secondWish(int c, int now) {
        int value = 0;
        int result = -1;
        for (int t : allowed) {
            List<Integer> list = keep(termText(t), now);
            if (list.isEmpty()) continue;
            int worst = list.get(0);
            for (int w : list) if (worthTo(c, w) < worthTo(c, worst)) worst = w;
            if (result < 0 || worthTo(c, worst) > value) {
                result = worst;
                value = worthTo(c, worst);
            }
        }
        return result < 0 ? now : result;
    }

    int lamps(int c, int words, int what) {
        if (!cousin(c) || c == s.wisher) return UNKNOWN;
        if (!in(words, 0, 6) || !in(what, 0, 1)) return OUTSIDE;
        allowed = ordered(words);
        int[] end = new int[1 << s.n];
        for (int w = 0; w < end.length; w++) end[w] = worthTo(s.wisher, secondWish(c, w));
        int term = NONE;
        int value = 0;
        for (int t : allowed) {
            List<Integer> list = keep(termText(t), s.now);
            if (list.isEmpty()) continue;
            int worst = Integer.MAX_VALUE;
            for (int w : list) worst = Math.min(worst, end[w]);
            if (term < 0 || worst > value) {
                term = t;
                value = worst;
            }
        }
        if (term < 0) value = end[s.now];
        return what == 0 ? 1000 + value : term;
    }

    int sixths(int a, int b, int c, int d) {
        if (!in(a, 0, 6) || !in(b, 0, 6) || !in(c, 0, 6) || !in(d, 0, 6) || a + b + c + d != 6) return OUTSIDE;
        s.sixths = new int[] {a, b, c, d};
        return 1;
    }

    private int votesOf(int w) {
        int sum = 0;
        for (int c = 0; c < 4; c++) if (worthTo(c, w) > worthTo(c, s.now)) sum += s.sixths[c];
        return sum;
    }

    int votes() {
        return makes() < 0 ? makes() : votesOf(makes());
    }

    int agreed(int what) {
        if (!in(what, 0, 1)) return OUTSIDE;
        int term = NONE;
        int votes = 0;
        int together = 0;
        for (int t : ordered(6)) {
            int w = made(t, s.now);
            if (w < 0) continue;
            int v = votesOf(w);
            int all = worthTo(0, w) + worthTo(1, w) + worthTo(2, w) + worthTo(3, w);
            if (term < 0 || v > votes || v == votes && all > together) {
                term = t;
                votes = v;
                together = all;
            }
        }
        return term < 0 ? NONE : what == 0 ? term : votes;
    }

    int paid() {
        int w = makes();
        if (w < 0) return w;
        int gains = 0;
        int losses = 0;
        for (int c = 0; c < 4; c++) {
            if (s.sixths[c] == 0) continue;
            gains += Math.max(0, worthTo(c, w) - worthTo(c, s.now));
            losses += Math.max(0, worthTo(c, s.now) - worthTo(c, w));
        }
        return gains < losses ? NONE : losses;
    }

    int picked(int w) {
        if (!world(w)) return OUTSIDE;
        if (fault() != NONE || !keep(pad, s.now).contains(w)) return NO;
        if (s.pickedWorld.size() == 6) return FULL;
        s.pickedWorld.add(w);
        s.pickedAmong.add(keep(pad, s.now));
        return s.pickedWorld.size();
    }

    private boolean fits(int number) {
        int[] each = digits(number);
        for (int i = 0; i < s.n; i++) each[i] -= 1;
        for (int i = 0; i < s.pickedWorld.size(); i++) {
            int best = s.pickedAmong.get(i).get(0);
            for (int w : s.pickedAmong.get(i)) if (sum(each, w) > sum(each, best)) best = w;
            if (best != s.pickedWorld.get(i)) return false;
        }
        return true;
    }

    int fit(int t) {
        if (t != -1 && t != -2 && !thing(t)) return UNKNOWN;
        int count = 0;
        int least = NONE;
        int bits = 0;
        for (int number = pow3() - 1; number >= 0; number--) {
            if (!fits(number)) continue;
            count++;
            least = number;
            if (t >= 0) bits |= 1 << digits(number)[t];
        }
        return t == -1 ? count : t == -2 ? least : bits;
    }

    int came(int from, int to) {
        if (!world(from) || !world(to)) return OUTSIDE;
        if (s.came.size() == 6) return FULL;
        s.came.add(new int[] {from, to});
        return s.came.size();
    }

    int letters(int what) {
        if (!in(what, 0, 1)) return OUTSIDE;
        int count = 0;
        int first = NONE;
        for (int t : ordered(6)) {
            boolean all = true;
            for (int[] sight : s.came) all = all && made(t, sight[0]) == sight[1];
            if (!all) continue;
            count++;
            if (first < 0) first = t;
        }
        return what == 0 ? count : first;
    }

    int forget() {
        int were = s.came.size() + s.pickedWorld.size();
        s.came.clear();
        s.pickedWorld.clear();
        s.pickedAmong.clear();
        return were;
    }

    private static long lowest(long upper, long lower, int part) {
        for (long d = lower; d > 1; d--) {
            if (upper % d == 0 && lower % d == 0) return lowest(upper / d, lower / d, part);
        }
        return part == 0 ? upper : lower;
    }

    long drunk(int t, int part) {
        if (!thing(t)) return LOST + UNKNOWN;
        if (!in(part, 0, 1)) return LOST + OUTSIDE;
        if (makes() < 0) return LOST + makes();
        List<Integer> list = keep(pad, s.now);
        int count = 0;
        for (int w : list) if (so(w, t)) count++;
        return lowest(count, list.size(), part);
    }

    long mean(int c, int part) {
        if (!cousin(c)) return LOST + UNKNOWN;
        if (!in(part, 0, 1)) return LOST + OUTSIDE;
        if (makes() < 0) return LOST + makes();
        List<Integer> list = keep(pad, s.now);
        long sum = 0;
        for (int w : list) sum += 1000 + worthTo(c, w);
        return lowest(sum, list.size(), part);
    }

    int year(int seed, int m, int what) {
        if (!in(seed, 0, 9999) || !in(m, 1, 99) || !in(what, 0, 2)) return OUTSIDE;
        long x = seed;
        int w = s.now;
        int voids = 0;
        int harms = 0;
        for (int i = 0; i < m; i++) {
            x = (75 * x + 74) % 65537;
            int next = made((int) (x % pow3()), w);
            if (next < 0) {
                voids++;
                continue;
            }
            if (worthTo(s.wisher, next) < worthTo(s.wisher, w)) harms++;
            w = next;
        }
        return new int[] {voids, w, harms}[what];
    }

    int image(int n) {
        if (!in(n, 0, 1)) return OUTSIDE;
        images[n] = s.copy();
        return 1;
    }

    int restore(int n) {
        if (!in(n, 0, 1)) return OUTSIDE;
        if (images[n] == null) return STATE;
        s = images[n].copy();
        return 1;
    }

    int told(int what) {
        if (in(what, 0, 8)) {
            return new int[] {pad.length(), s.n, s.now, s.way, s.wisher, s.still, s.before.size(),
                s.pickedWorld.size(), s.came.size()}[what];
        }
        if (what == 9) {
            int count = 0;
            for (int w = 0; w < 1 << s.n; w++) if (holds(s.law, w, s.lawNow)) count++;
            return count;
        }
        for (int t = 0; t < s.n; t++) if (what == 10 + t) return 1000 + s.taste[t];
        for (int c = 0; c < 4; c++) if (what == 20 + c) return s.sixths[c];
        for (int c = 0; c < 4; c++) {
            for (int t = 0; t < s.n; t++) if (what == 10 * (3 + c) + t) return 1000 + s.worth[c][t];
        }
        return OUTSIDE;
    }
}
