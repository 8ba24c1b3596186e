/** What the tests of the boundary cases share: each case bears the words of the document that it is about. */
abstract class Boundary {
    static final int NONE = -6, UNKNOWN = -1, OUTSIDE = -2, STATE = -3, FULL = -4, NO = -5;
    static final long LOST = -1000000000000000000L;
    static final int MIN = Integer.MIN_VALUE, MAX = Integer.MAX_VALUE;
    static final int[] FAR_OFF = {MIN, MIN + 1, MAX - 1, MAX};

    interface Body {
        void run();
    }

    private static String now = "";
    private static int cases = 0;
    private static int asked = 0;
    private static int wrong = 0;

    static void test(String words, Body body) {
        now = words;
        cases++;
        int before = asked;
        try {
            body.run();
        } catch (RuntimeException | StackOverflowError e) {
            fail("threw " + e);
        }
        if (asked == before) fail("asked for nothing");
    }

    static void due(String call, long got, long want) {
        asked++;
        if (got != want) fail(call + " answered " + got + ", due is " + want);
    }

    private static void fail(String what) {
        wrong++;
        System.out.println("[" + now + "] " + what);
    }

    static void end() {
        System.out.println(cases + " cases, " + asked + " answers asked for, " + wrong + " not as due");
        if (wrong != 0) System.exit(1);
    }

    // ---- lamps

    static WishLamp lamp(int things) {
        WishLamp x = new WishLamp();
        x.things(things);
        return x;
    }

    /** Four things; a is worth 5 to cousin 0, b -3 to him; a is worth -4 to cousin 1. */
    static WishLamp cousins() {
        WishLamp x = new WishLamp();
        x.worth(0, 0, 5);
        x.worth(0, 1, -3);
        x.worth(1, 0, -4);
        return x;
    }

    /** Each thing is worth v to the cousin. */
    static WishLamp even(int things, int cousin, int v) {
        WishLamp x = lamp(things);
        for (int t = 0; t < things; t++) x.worth(cousin, t, v);
        return x;
    }

    static WishLamp wish(WishLamp x, String text) {
        x.wipe();
        for (int i = 0; i < text.length(); i++) x.say(text.charAt(i));
        return x;
    }

    static WishLamp law(WishLamp x, String text) {
        wish(x, text);
        x.enact();
        return x;
    }

    static String times(int count, String text) {
        StringBuilder all = new StringBuilder();
        for (int i = 0; i < count; i++) all.append(text);
        return all.toString();
    }

    /** A wish that says of each thing whether it is so in the world. */
    static String just(int things, int world) {
        StringBuilder text = new StringBuilder(times(things - 1, "&"));
        for (int t = 0; t < things; t++) text.append((world >> t & 1) != 0 ? "" : "-").append((char) ('a' + t));
        return text.toString();
    }

    static int[] allTold(WishLamp x) {
        int[] all = new int[70];
        for (int i = 0; i < 70; i++) all[i] = x.told(i);
        return all;
    }

    /** Four things, nothing of it as at first. */
    static WishLamp full() {
        WishLamp x = cousins();
        for (int t = 0; t < 4; t++) {
            x.worth(2, t, t - 9);
            x.worth(3, t, 9 - t);
            x.taste(t, 3 - 2 * t);
        }
        x.set(0, 2);
        x.set(1, 1);
        x.set(2, 4);
        x.sixths(1, 2, 2, 1);
        law(x, "|ab");
        wish(x, "b").grant();
        wish(x, "&a-b");
        x.picked(1);
        x.picked(5);
        x.came(2, 3);
        return x;
    }

    /** All that is told and done but for the pad and the images. */
    static void asAtFirst(WishLamp x, int things) {
        int[] plain = {things, 0, 0, 0, 6, 0, 0, 0, 1 << things};
        for (int i = 0; i < plain.length; i++) due("told(" + (i + 1) + ")", x.told(i + 1), plain[i]);
        for (int t = 0; t < things; t++) {
            due("taste", x.told(10 + t), 1000);
            for (int c = 0; c < 4; c++) due("worth", x.told(30 + 10 * c + t), 1000);
        }
        for (int c = 0; c < 4; c++) due("sixths", x.told(20 + c), c == 0 ? 6 : 0);
        due("undo", x.undo(), STATE);
        due("fit", x.fit(-1), power(things));
        due("letters", x.letters(0), power(things));
        due("forget", x.forget(), 0);
        wish(x, "1");
        due("all worlds", x.kept(-1), 1 << things);
        due("what is made", x.makes(), 0);
    }

    static int power(int things) {
        int p = 1;
        for (int t = 0; t < things; t++) p *= 3;
        return p;
    }

    // ---- answers that come in twos

    static void rowIs(WishLamp x, int k, int words, int value, int term) {
        due("row(" + k + ", " + words + ", 0)", x.row(k, words, 0), value);
        due("row(" + k + ", " + words + ", 1)", x.row(k, words, 1), term);
    }

    static void lampsAre(WishLamp x, int cousin, int words, int value, int term) {
        due("lamps(" + cousin + ", " + words + ", 0)", x.lamps(cousin, words, 0), value);
        due("lamps(" + cousin + ", " + words + ", 1)", x.lamps(cousin, words, 1), term);
    }

    static void lettersAre(WishLamp x, int count, int term) {
        due("how many", x.letters(0), count);
        due("the term", x.letters(1), term);
    }

    static void partsAre(long upper, long lower, long wantUpper, long wantLower) {
        due("upper", upper, wantUpper);
        due("lower", lower, wantLower);
    }
}
