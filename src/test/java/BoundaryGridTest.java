import java.lang.reflect.Method;
import java.util.ArrayList;
import java.util.List;

/**
 * Each call with each choice of numbers at the edges of what is told, in states that are empty, full, faulty or void:
 * the class and the slow lamp answer the same and are told of in the same way then.
 */
public final class BoundaryGridTest {
    private static final int MIN = Integer.MIN_VALUE, MAX = Integer.MAX_VALUE;
    private static int wrong = 0;
    private static long asked = 0;

    /** One call, for both lamps. */
    private static final class Face {
        final String name;
        final Method fast;
        final Method slow;
        final int[][] edges;

        Face(String name, int[]... edges) {
            this.name = name;
            this.edges = edges;
            Class<?>[] types = new Class<?>[edges.length];
            java.util.Arrays.fill(types, int.class);
            try {
                fast = WishLamp.class.getDeclaredMethod(name, types);
                slow = SlowLamp.class.getDeclaredMethod(name, types);
            } catch (NoSuchMethodException e) {
                throw new IllegalStateException(name);
            }
        }

        int choices() {
            int count = 1;
            for (int[] e : edges) count *= e.length;
            return count;
        }

        Object[] choice(int number) {
            Object[] args = new Object[edges.length];
            int rest = number;
            for (int i = 0; i < edges.length; i++) {
                args[i] = edges[i][rest % edges[i].length];
                rest /= edges[i].length;
            }
            return args;
        }
    }

    private static int[] around(int low, int high) {
        return new int[] {MIN, low - 1, low, high, high + 1, MAX};
    }

    private static List<Face> faces(int n) {
        int[] cousin = {MIN, -1, 0, 1, 2, 3, 4, MAX};
        int[] thing = around(0, n - 1);
        int[] world = around(0, (1 << n) - 1);
        int[] bit = {MIN, -1, 0, 1, 2, MAX};
        int[] three = {MIN, -1, 0, 1, 2, 3, MAX};
        int[] nine = around(-9, 9);
        int[] words = n > 4 ? new int[] {MIN, -1, 0, 7, MAX} : new int[] {MIN, -1, 0, 1, 6, 7, MAX};
        int[] share = {MIN, -1, 0, 1, 3, 6, 7, MAX};
        int[] each = new int[76];
        for (int i = 0; i < 74; i++) each[i] = i - 2;
        each[74] = MIN;
        each[75] = MAX;
        int terms = 1;
        for (int i = 0; i < n; i++) terms *= 3;
        List<Face> all = new ArrayList<>();
        all.add(new Face("things", around(2, 6)));
        all.add(new Face("worth", cousin, thing, nine));
        all.add(new Face("taste", thing, nine));
        all.add(new Face("set", three, new int[] {MIN, -1, 0, 2, 3, 4, 6, 7, MAX}));
        all.add(new Face("now", world));
        all.add(new Face("worthOf", cousin, world));
        all.add(new Face("say", new int[] {MIN, 32, 33, 45, 48, 97, 98, 126, 127, MAX}));
        for (String name : new String[] {"wipe", "fault", "enact", "makes", "harmed", "grant", "undo", "votes", "paid", "forget"}) {
            all.add(new Face(name));
        }
        all.add(new Face("kept", each));
        all.add(new Face("extreme", cousin, bit, bit));
        all.add(new Face("comma", three));
        all.add(new Face("term", around(0, terms - 1)));
        all.add(new Face("wording", new int[] {MIN, -100, -99, -3, 0, 5, 99, 100, MAX}, bit));
        all.add(new Face("most", words, bit));
        all.add(new Face("row", new int[] {MIN, 0, 1, 2, 3, 4, MAX}, words, bit));
        all.add(new Face("lamps", cousin, words, bit));
        all.add(new Face("sixths", share, share, share, share));
        all.add(new Face("agreed", bit));
        all.add(new Face("picked", each));
        all.add(new Face("fit", new int[] {MIN, -3, -2, -1, 0, 1, n - 1, n, MAX}));
        all.add(new Face("came", world, world));
        all.add(new Face("letters", bit));
        all.add(new Face("drunk", thing, bit));
        all.add(new Face("mean", cousin, bit));
        all.add(new Face("year", around(0, 9999), around(1, 99), three));
        all.add(new Face("image", bit));
        all.add(new Face("restore", bit));
        all.add(new Face("told", each));
        return all;
    }

    /** A lamp and a slow one that have had the same calls. */
    private static final class Pair {
        final WishLamp fast = new WishLamp();
        final SlowLamp slow = new SlowLamp();
        int calls = 0;

        void wish(String text) {
            fast.wipe();
            slow.wipe();
            for (char c : text.toCharArray()) {
                fast.say(c);
                slow.say(c);
            }
            calls += 1 + text.length();
        }

        void law(String text) {
            wish(text);
            fast.enact();
            slow.enact();
            calls++;
        }

        void grant(String text) {
            wish(text);
            fast.grant();
            slow.grant();
            calls++;
        }

        void worths(int n) {
            for (int t = 0; t < n; t++) {
                for (int c = 0; c < 4; c++) {
                    int v = (c * 5 + t * 7) % 11 - 5;
                    fast.worth(c, t, v);
                    slow.worth(c, t, v);
                }
                fast.taste(t, 2 - t);
                slow.taste(t, 2 - t);
            }
            fast.sixths(2, 1, 0, 3);
            slow.sixths(2, 1, 0, 3);
            calls += 5 * n + 1;
        }

        void set(int which, int v) {
            fast.set(which, v);
            slow.set(which, v);
            calls++;
        }

        void things(int n) {
            fast.things(n);
            slow.things(n);
            calls++;
        }

        void sights(int count) {
            for (int i = 0; i < count; i++) {
                int w = slow.kept(0);
                fast.picked(w);
                slow.picked(w);
                fast.came(0, w);
                slow.came(0, w);
            }
            calls += 2 * count;
        }

        void image(int n) {
            fast.image(n);
            slow.image(n);
            calls++;
        }
    }

    private static final int[] THINGS = {4, 4, 4, 4, 4, 4, 4, 4, 4, 2, 2, 3, 5, 6};
    private static final String[] STATES = {"new", "rich", "open", "full pad", "void by law", "void by words",
        "open and void", "full of sights", "full past", "two things", "two things, full", "way 1", "five things", "six things"};

    private static Pair made(int state) {
        Pair p = new Pair();
        int n = THINGS[state];
        if (n != 4) p.things(n);
        if (state == 0 || state == 9) return p;
        p.worths(n);
        p.set(1, 1);
        p.set(2, state % 4 + 1);
        p.law("|a-b");
        p.grant("&ab");
        if (state == 2) p.wish("&a");
        else if (state == 3) p.wish("-----------------------aaaaaaaaaaaaaaaaaaaa");
        else if (state == 4) voidLaw(p, "|a-b");
        else if (state == 5) p.wish("&a-a");
        else if (state == 6) voidLaw(p, "~");
        else p.wish("|a-b");
        if (state == 7 || state == 10) p.sights(6);
        if (state == 8) {
            for (int i = 0; i < 17; i++) p.grant(i % 2 == 0 ? "-b" : "~a");
            p.wish("-&ab");
        }
        if (state == 1 || state == 10) p.image(1);
        if (state == 11) p.set(0, 1);
        if (state >= 12) p.set(0, 2);
        return p;
    }

    private static void voidLaw(Pair p, String text) {
        p.law("0");
        p.wish(text);
    }

    private static void check(String what, long got, long want) {
        asked++;
        if (got != want) {
            wrong++;
            if (wrong < 20) System.out.println(what + " answered " + got + ", due is " + want);
        }
    }

    private static boolean compare(Pair p, Face face, Object[] args, String where) throws ReflectiveOperationException {
        long got = ((Number) face.fast.invoke(p.fast, args)).longValue();
        long want = ((Number) face.slow.invoke(p.slow, args)).longValue();
        p.calls++;
        check(where + ": " + face.name + java.util.Arrays.toString(args), got, want);
        return got < 0;
    }

    private static void toldTheSame(Pair p, String where) {
        for (int i = 0; i < 70; i++) check(where + ", then told(" + i + ")", p.fast.told(i), p.slow.told(i));
        check(where + ", then undo()", p.fast.undo(), p.slow.undo());
        check(where + ", then fit(-1)", p.fast.fit(-1), p.slow.fit(-1));
    }

    /** A refused call leaves the lamps for the next choice; one that was taken has them told of, and new ones made. */
    private static void grid(int state) throws ReflectiveOperationException {
        for (Face face : faces(THINGS[state])) {
            Pair p = made(state);
            String where = STATES[state];
            for (int i = 0; i < face.choices(); i++) {
                Object[] args = face.choice(i);
                boolean refused = compare(p, face, args, where);
                boolean changes = "things worth taste set now say wipe enact grant undo sixths picked came forget image restore".contains(face.name);
                if (!refused && changes || p.calls > 400 || i == face.choices() - 1) {
                    toldTheSame(p, where + ": " + face.name + java.util.Arrays.toString(args));
                    p = made(state);
                }
            }
        }
    }

    public static void main(String[] args) throws ReflectiveOperationException {
        for (int state = 0; state < STATES.length; state++) grid(state);
        System.out.println(asked + " answers compared in " + STATES.length + " states, " + wrong + " differ");
        if (wrong != 0) System.exit(1);
    }
}
