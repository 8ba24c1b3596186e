/** One method a promise: ordinary inputs, the edges that the document names, wrong inputs; answers worked out by hand. */
public final class PromisesTest {
    private static final int NONE = -6, UNKNOWN = -1, OUTSIDE = -2, STATE = -3, FULL = -4, NO = -5;
    private static final long LOST = -1000000000000000000L;
    private static final int[] FAR_OFF = {Integer.MIN_VALUE, Integer.MAX_VALUE};
    private static int wrong = 0;
    private static int asked = 0;

    private static void due(String call, long got, long want) {
        asked++;
        if (got != want) {
            wrong++;
            StackTraceElement from = Thread.currentThread().getStackTrace()[2];
            System.out.println(from.getMethodName() + ", line " + from.getLineNumber() + ": " + call
                + " answered " + got + ", due is " + want);
        }
    }

    private static void wish(WishLamp x, String text) {
        x.wipe();
        for (int i = 0; i < text.length(); i++) x.say(text.charAt(i));
    }

    private static void law(WishLamp x, String text) {
        wish(x, text);
        x.enact();
    }

    private static WishLamp lamp(int things) {
        WishLamp x = new WishLamp();
        x.things(things);
        return x;
    }

    /** Four things; a is worth 5 to cousin 0, b -3 to him; a is worth -4 to cousin 1. */
    private static WishLamp cousinsLamp() {
        WishLamp x = new WishLamp();
        x.worth(0, 0, 5);
        x.worth(0, 1, -3);
        x.worth(1, 0, -4);
        return x;
    }

    private static void isAsAtFirst(WishLamp x, int things) {
        int worlds = 1 << things;
        int[] plain = {things, 0, 0, 0, 6, 0, 0, 0, worlds};
        for (int i = 0; i < plain.length; i++) due("told(" + (i + 1) + ")", x.told(i + 1), plain[i]);
        for (int t = 0; t < things; t++) {
            due("told(taste)", x.told(10 + t), 1000);
            for (int c = 0; c < 4; c++) due("told(worth)", x.told(30 + 10 * c + t), 1000);
        }
        for (int c = 0; c < 4; c++) due("told(sixths)", x.told(20 + c), c == 0 ? 6 : 0);
        int tastes = 1;
        for (int t = 0; t < things; t++) tastes *= 3;
        due("fit(-1)", x.fit(-1), tastes);
        due("letters(0)", x.letters(0), tastes);
    }

    private static void promise1() {
        WishLamp x = new WishLamp();
        isAsAtFirst(x, 4);
        due("told(0)", x.told(0), 0);
        due("restore(0)", x.restore(0), STATE);
        due("restore(1)", x.restore(1), STATE);
        due("undo", x.undo(), STATE);
        WishLamp y = new WishLamp();
        x.now(5);
        due("another object", y.told(2), 0);
    }

    private static void promise2() {
        WishLamp x = cousinsLamp();
        due("things(1)", x.things(1), OUTSIDE);
        due("things(7)", x.things(7), OUTSIDE);
        for (int v : FAR_OFF) due("things(far)", x.things(v), OUTSIDE);
        due("a refused call changes nothing", x.told(30), 1005);
        x.taste(0, 3);
        x.set(0, 2);
        x.set(1, 2);
        x.set(2, 1);
        x.sixths(1, 2, 3, 0);
        law(x, "a");
        wish(x, "b");
        x.grant();
        wish(x, "b");
        x.picked(3);
        x.came(0, 1);
        x.image(1);
        due("things(6)", x.things(6), 4);
        isAsAtFirst(x, 6);
        due("the pad stays", x.told(0), 1);
        due("things(6) again", x.things(6), 6);
        due("things(2)", x.things(2), 6);
        isAsAtFirst(x, 2);
        wish(x, "c");
        due("no c of two things", x.fault(), 0);
        x.things(3);
        due("c of three", x.fault(), NONE);
        due("images stay", x.restore(1), 1);
        due("now again", x.told(2), 3);
        due("things again", x.told(1), 4);
        x.things(4);
        due("all else goes, though n is the same", x.told(2), 0);
    }

    private static void promise3() {
        WishLamp x = new WishLamp();
        due("worth", x.worth(3, 3, 9), 1000);
        due("worth", x.worth(3, 3, -9), 1009);
        due("worth", x.worth(3, 3, 0), 991);
        due("worth(4, ..)", x.worth(4, 0, 0), UNKNOWN);
        due("worth(-1, ..)", x.worth(-1, 0, 0), UNKNOWN);
        due("thing", x.worth(0, 4, 0), UNKNOWN);
        due("thing", x.worth(0, -1, 0), UNKNOWN);
        due("UNKNOWN ahead of OUTSIDE", x.worth(0, 4, 10), UNKNOWN);
        due("10", x.worth(0, 0, 10), OUTSIDE);
        due("-10", x.worth(0, 0, -10), OUTSIDE);
        for (int v : FAR_OFF) {
            due("far", x.worth(v, 0, 0), UNKNOWN);
            due("far", x.worth(0, v, 0), UNKNOWN);
            due("far", x.worth(0, 0, v), OUTSIDE);
        }
        due("nothing changed", x.told(30), 1000);
        due("of six things", lamp(6).worth(0, 5, 1), 1000);
    }

    private static void promise4() {
        WishLamp x = new WishLamp();
        due("taste", x.taste(3, -9), 1000);
        due("taste", x.taste(3, 9), 991);
        due("taste", x.taste(3, 0), 1009);
        due("taste(4)", x.taste(4, 99), UNKNOWN);
        due("taste(-1)", x.taste(-1, 0), UNKNOWN);
        due("10", x.taste(0, 10), OUTSIDE);
        due("-10", x.taste(0, -10), OUTSIDE);
        due("nothing changed", x.told(10), 1000);
    }

    private static void promise5() {
        WishLamp x = new WishLamp();
        int[] first = {0, 0, 6};
        int[] last = {2, 3, 6};
        for (int which = 0; which < 3; which++) {
            due("set", x.set(which, 1), first[which]);
            due("set", x.set(which, last[which]), 1);
            due("set", x.set(which, last[which] + 1), OUTSIDE);
            due("set", x.set(which, -1), OUTSIDE);
            due("told", x.told(3 + which), last[which]);
            due("set", x.set(which, 0), last[which]);
        }
        due("which", x.set(3, 0), OUTSIDE);
        due("which", x.set(-1, 0), OUTSIDE);
    }

    private static void promise6() {
        WishLamp x = new WishLamp();
        due("now", x.now(15), 0);
        due("now", x.now(16), OUTSIDE);
        due("now", x.now(-1), OUTSIDE);
        for (int v : FAR_OFF) due("now", x.now(v), OUTSIDE);
        wish(x, "1");
        x.grant();
        due("to undo", x.told(6), 1);
        due("refused", x.now(16), OUTSIDE);
        due("to undo still", x.told(6), 1);
        due("now", x.now(0), 0);
        due("nothing to undo", x.told(6), 0);
        due("undo", x.undo(), STATE);
        law(x, "a");
        due("now need not keep the law", x.now(2), 0);
    }

    private static void promise7() {
        WishLamp x = cousinsLamp();
        due("worthOf", x.worthOf(0, 3), 1002);
        due("worthOf", x.worthOf(0, 15), 1002);
        due("worthOf", x.worthOf(1, 15), 996);
        due("worthOf", x.worthOf(0, 0), 1000);
        due("cousin", x.worthOf(4, 99), UNKNOWN);
        due("cousin", x.worthOf(-1, 0), UNKNOWN);
        due("world", x.worthOf(0, 16), OUTSIDE);
        due("world", x.worthOf(0, -1), OUTSIDE);
        WishLamp y = lamp(6);
        for (int t = 0; t < 6; t++) y.worth(2, t, -9);
        due("least", y.worthOf(2, 63), 946);
    }

    private static void promise8() {
        WishLamp x = new WishLamp();
        due("32", x.say(32), OUTSIDE);
        due("127", x.say(127), OUTSIDE);
        for (int v : FAR_OFF) due("far", x.say(v), OUTSIDE);
        for (int i = 1; i <= 40; i++) due("say", x.say(i % 2 == 0 ? 33 : 126), i);
        due("full", x.say('a'), FULL);
        due("OUTSIDE ahead of FULL", x.say(32), OUTSIDE);
        due("told", x.told(0), 40);
    }

    private static void promise9() {
        WishLamp x = new WishLamp();
        due("wipe", x.wipe(), 0);
        for (int i = 0; i < 50; i++) x.say('a');
        due("wipe", x.wipe(), 40);
        due("wipe", x.wipe(), 0);
        due("say", x.say('a'), 1);
    }

    private static void faultIs(WishLamp x, String text, int want) {
        wish(x, text);
        due("fault of " + text, x.fault(), want);
        due("kept of " + text, x.kept(-1) == NO ? 1 : 0, want == NONE ? 0 : 1);
    }

    private static void promise10() {
        WishLamp x = new WishLamp();
        String[] whole = {"a", "d", "0", "1", "~a", "-~d", "&ab", "|0-1", ">~aa", "=a^bc", "^&ab|cd", "---a"};
        for (String text : whole) faultIs(x, text, NONE);
        String[] open = {"", "-", "&", "&a", "~", "&~", "|-", "=&ab", "^a-", ">~a"};
        for (String text : open) faultIs(x, text, text.length());
        faultIs(x, "ab", 1);
        faultIs(x, "e", 0);
        faultIs(x, "A", 0);
        faultIs(x, "2", 0);
        faultIs(x, "~0", 1);
        faultIs(x, "~~a", 1);
        faultIs(x, "~-a", 1);
        faultIs(x, "~e", 1);
        faultIs(x, "&ab-", 3);
        faultIs(x, "&!b", 1);
        faultIs(x, "a!", 1);
        String minus = "-----------------------";
        faultIs(x, minus + "a", NONE);
        faultIs(x, minus + "-", 24);
        faultIs(x, minus + "-a", 24);
        faultIs(x, minus + "--a", 24);
        faultIs(x, minus + "ab", 24);
        faultIs(x, minus + "~a", 24);
        faultIs(x, "&a" + minus, 24);
        faultIs(lamp(6), "&ef", NONE);
        faultIs(lamp(2), "&bc", 2);
    }

    private static void promise11() {
        WishLamp x = new WishLamp();
        due("empty", x.enact(), NO);
        wish(x, "&a");
        due("open", x.enact(), NO);
        due("the pad stays", x.told(0), 2);
        due("the law stays", x.told(9), 16);
        wish(x, "&ab");
        due("enact", x.enact(), 3);
        due("the pad is empty", x.told(0), 0);
        due("worlds", x.told(9), 4);
        wish(x, "a");
        due("enact", x.enact(), 1);
        due("in its place", x.told(9), 8);
        x.now(5);
        law(x, "&~a~b");
        x.now(2);
        wish(x, "1");
        due("for good", x.kept(-1), 4);
        due("for good", x.kept(0), 1);
        due("for good", x.kept(3), 13);
        wish(x, "&~a~b");
        due("of the wish it is now", x.kept(-1), 0);
        law(x, "0");
        due("nothing keeps it", x.told(9), 0);
    }

    private static void promise12() {
        WishLamp x = new WishLamp();
        due("empty", x.kept(-1), NO);
        due("empty", x.kept(99), NO);
        wish(x, "a");
        due("kept", x.kept(-1), 8);
        for (int i = 0; i < 8; i++) due("kept", x.kept(i), 2 * i + 1);
        due("kept", x.kept(8), NONE);
        due("kept", x.kept(-2), NONE);
        for (int v : FAR_OFF) due("kept", x.kept(v), NONE);
        String[] texts = {"&ab", "|ab", ">ab", "=ab", "^ab", "-a", "0", "1", "~a", "-~a", ">a&b-c"};
        int[] counts = {4, 12, 12, 8, 8, 8, 0, 16, 8, 8, 10};
        for (int i = 0; i < texts.length; i++) {
            wish(x, texts[i]);
            due(texts[i], x.kept(-1), counts[i]);
        }
        wish(x, ">ab");
        due("if a, b", x.kept(1), 2);
        wish(x, "^a&bc");
        due("just one: 1, 3, 5, 6, ..", x.kept(3), 6);
        wish(x, "=ab");
        due("both or none", x.kept(0), 0);
        due("both or none", x.kept(1), 3);
        wish(x, "^ab");
        due("just one", x.kept(1), 2);
        x.set(2, 0);
        wish(x, "a");
        due("all else is still", x.kept(-1), 1);
        wish(x, "&a~b");
        due("~ says, too", x.kept(-1), 1);
        wish(x, "&a|b-b");
        due("b is said", x.kept(-1), 2);
        x.set(2, 1);
        wish(x, "a");
        due("one may stir", x.kept(-1), 4);
        x.now(14);
        due("from there", x.kept(0), 7);
        due("from there", x.kept(3), 15);
        wish(x, "1");
        due("NOW keeps it", x.kept(-1), 5);
        law(x, "-d");
        wish(x, "1");
        due("under the law one", x.kept(-1), 1);
        due("that one", x.kept(0), 6);
        x.things(6);
        wish(x, "1");
        due("all", x.kept(-1), 64);
        due("last", x.kept(63), 63);
        x.set(2, 0);
        String[] signs = {"&ab", "|ab", ">ab", "=ab", "^ab", "-a", "~a", "0", "1", "&b~b"};
        int[] few = {1, 3, 3, 2, 2, 1, 1, 0, 1, 0};
        for (int i = 0; i < signs.length; i++) {
            wish(x, signs[i]);
            due("letters alone say: " + signs[i], x.kept(-1), few[i]);
        }
    }

    private static void promise13() {
        WishLamp x = cousinsLamp();
        due("empty", x.makes(), NO);
        wish(x, "0");
        due("void", x.makes(), STATE);
        wish(x, "1");
        due("the worst", x.makes(), 2);
        x.set(1, 1);
        due("the worst for 1", x.makes(), 1);
        x.set(0, 1);
        due("no taste: the least", x.makes(), 0);
        x.taste(3, 1);
        x.taste(0, -2);
        due("by taste", x.makes(), 8);
        wish(x, "a");
        due("by taste", x.makes(), 9);
        x.set(0, 2);
        x.set(1, 0);
        x.now(12);
        due("the nearest", x.makes(), 13);
        wish(x, "^-c-d");
        due("the nearest, the least of them", x.makes(), 4);
        x.worth(0, 2, 1);
        due("the nearest, the worst of them", x.makes(), 8);
        x.set(0, 0);
        due("the worst", x.makes(), 10);
        law(x, "-b");
        wish(x, "b");
        due("void", x.makes(), STATE);
    }

    private static void promise14() {
        WishLamp x = cousinsLamp();
        due("cousin first", x.extreme(4, 2, 2), UNKNOWN);
        due("cousin first", x.extreme(-1, 0, 0), UNKNOWN);
        due("then numbers", x.extreme(0, 2, 0), OUTSIDE);
        due("then numbers", x.extreme(0, -1, 0), OUTSIDE);
        due("then numbers", x.extreme(0, 0, 2), OUTSIDE);
        due("then numbers", x.extreme(0, 0, -1), OUTSIDE);
        due("then the fault", x.extreme(0, 0, 0), NO);
        wish(x, "0");
        due("then void", x.extreme(0, 0, 0), STATE);
        wish(x, "|ab");
        due("worst", x.extreme(0, 0, 0), 997);
        due("worst", x.extreme(0, 0, 1), 2);
        due("best", x.extreme(0, 1, 0), 1005);
        due("best", x.extreme(0, 1, 1), 1);
        due("worst for 1", x.extreme(1, 0, 0), 996);
        due("worst for 1", x.extreme(1, 0, 1), 1);
        due("best for 1", x.extreme(1, 1, 0), 1000);
        due("best for 1", x.extreme(1, 1, 1), 2);
        due("all the same to 2", x.extreme(2, 1, 1), 1);
        x.set(0, 1);
        x.set(1, 3);
        due("by no way", x.extreme(0, 0, 1), 2);
        wish(x, "1");
        due("best for 1 is the world of nothing", x.extreme(1, 1, 1), 0);
        due("best for 1 is the world of nothing", x.extreme(1, 1, 0), 1000);
    }

    private static void promise15() {
        WishLamp x = cousinsLamp();
        due("empty", x.harmed(), NO);
        wish(x, "0");
        due("void", x.harmed(), STATE);
        wish(x, "a");
        due("1 is harmed", x.harmed(), 2);
        wish(x, "1");
        due("0 is harmed", x.harmed(), 1);
        x.worth(2, 1, -1);
        x.worth(3, 1, -1);
        due("0, 2, 3 are", x.harmed(), 13);
        x.now(2);
        due("not worse than now", x.harmed(), 0);
        x.now(1);
        wish(x, "&-a-b");
        due("the world of nothing harms 0", x.harmed(), 1);
    }

    private static void promise16() {
        WishLamp x = cousinsLamp();
        due("empty", x.grant(), NO);
        wish(x, "0");
        due("void", x.grant(), STATE);
        due("the pad stays", x.told(0), 1);
        due("nothing is kept", x.told(6), 0);
        wish(x, "&a-b");
        due("grant", x.grant(), 1);
        due("now", x.told(2), 1);
        due("the pad is empty", x.told(0), 0);
        due("to undo", x.told(6), 1);
        due("no wish now", x.grant(), NO);
        wish(x, "~a");
        due("grant", x.grant(), 3);
        wish(x, "~a");
        due("the same world", x.grant(), 3);
        due("to undo", x.told(6), 3);
    }

    private static void promise17() {
        WishLamp x = lamp(5);
        x.set(2, 0);
        due("undo", x.undo(), STATE);
        for (int i = 1; i <= 20; i++) {
            String text = "1";
            for (int t = 0; t < 5; t++) text = "&" + ((i >> t & 1) != 0 ? "" : "-") + (char) ('a' + t) + text;
            wish(x, text);
            due("grant", x.grant(), i);
            due("to undo", x.told(6), Math.min(i, 16));
        }
        wish(x, "a");
        for (int i = 19; i >= 4; i--) {
            due("undo", x.undo(), i);
            due("now", x.told(2), i);
            due("to undo", x.told(6), i - 4);
        }
        due("of more the latest", x.undo(), STATE);
        due("now", x.told(2), 4);
        due("the pad stays", x.told(0), 1);
        due("grant", x.grant(), 5);
        due("undo", x.undo(), 4);
    }

    private static void commaIs(WishLamp x, String text, int place, int sign, int value) {
        wish(x, text);
        due("place in " + text, x.comma(0), place);
        due("sign in " + text, x.comma(1), sign);
        due("worth of " + text, x.comma(2), value);
        due("the pad is as it was", x.told(0), text.length());
    }

    private static void promise18() {
        WishLamp x = cousinsLamp();
        due("OUTSIDE ahead of NO", x.comma(3), OUTSIDE);
        due("OUTSIDE", x.comma(-1), OUTSIDE);
        due("NO", x.comma(0), NO);
        commaIs(x, "&a-b", 0, '&', 1005);
        commaIs(x, "|a-b", 0, '&', 1005);
        commaIs(x, "&ab", 0, '&', 1002);
        commaIs(x, "^ab", 0, '&', 1002);
        commaIs(x, "a", NONE, NONE, NONE);
        commaIs(x, "~a", NONE, NONE, NONE);
        commaIs(x, "-b", 0, 0, 997);
        commaIs(x, "--b", 0, 0, 1000);
        commaIs(x, "-1", 0, 0, 997);
        commaIs(x, "-0", NONE, NONE, NONE);
        wish(x, "a-");
        commaIs(x, "a", NONE, NONE, NONE);
        commaIs(x, "&a--b", 2, 0, 1005);
        commaIs(x, "-&a-b", 0, 0, 1005);
        // if b, not b: so not b
        commaIs(x, "&a|b-b", 2, '>', 1005);
        commaIs(x, "=a0", 0, '|', 1002);
        commaIs(x, "^-a-b", 0, '&', 1000);
        law(x, "0");
        commaIs(x, "&a-b", NONE, NONE, NONE);
        x.things(2);
        x.worth(0, 0, 1);
        x.worth(0, 1, 1);
        x.set(2, 0);
        commaIs(x, "|a0", 0, '|', 1001);
        commaIs(x, ">0a", 0, '|', 1001);
    }

    private static void promise19() {
        WishLamp x = cousinsLamp();
        due("term(-1)", x.term(-1), OUTSIDE);
        due("term(81)", x.term(81), OUTSIDE);
        for (int v : FAR_OFF) due("far", x.term(v), OUTSIDE);
        due("nothing said", x.term(0), 2);
        due("a", x.term(27), 3);
        due("not a", x.term(54), 2);
        due("not b", x.term(18), 0);
        due("d", x.term(1), 10);
        due("not d", x.term(2), 2);
        due("a, not b, c, not d", x.term(27 + 18 + 3 + 2), 5);
        x.set(2, 0);
        due("a, nothing stirs", x.term(27), 1);
        x.now(14);
        due("a, nothing stirs", x.term(27), 15);
        due("nothing", x.term(0), 14);
        x.set(2, 1);
        due("one stirs: none is worse", x.term(27), 7);
        x.set(0, 2);
        due("the nearest", x.term(27), 15);
        law(x, "&a-b");
        due("void", x.term(9), STATE);
        due("a: b is the one that stirs", x.term(27), 13);
        x.things(2);
        due("term(9) of two", x.term(9), OUTSIDE);
        due("neither", x.term(8), 0);
        due("both", x.term(4), 3);
        x.things(6);
        due("last of six", x.term(728), 0);
        due("term(729)", x.term(729), OUTSIDE);
    }

    private static void promise20() {
        WishLamp x = cousinsLamp();
        due("goal", x.wording(100, 0), OUTSIDE);
        due("goal", x.wording(-100, 0), OUTSIDE);
        due("what", x.wording(0, 2), OUTSIDE);
        due("what", x.wording(0, -1), OUTSIDE);
        int[] goals = {-99, -3, -2, 0, 1, 2, 3, 5, 6, 99};
        int[] terms = {0, 0, 18, 18, 27, 27, 45, 45, NONE, NONE};
        int[] words = {0, 0, 1, 1, 1, 1, 2, 2, NONE, NONE};
        for (int i = 0; i < goals.length; i++) {
            due("wording of " + goals[i], x.wording(goals[i], 0), terms[i]);
            due("words of " + goals[i], x.wording(goals[i], 1), words[i]);
        }
        law(x, "-a");
        due("never", x.wording(1, 0), NONE);
        x.set(0, 1);
        due("by taste nothing need be said", x.wording(0, 1), 0);
    }

    private static void promise21() {
        WishLamp x = cousinsLamp();
        due("words", x.most(7, 0), OUTSIDE);
        due("words", x.most(-1, 0), OUTSIDE);
        due("what", x.most(0, 2), OUTSIDE);
        due("what", x.most(0, -1), OUTSIDE);
        int[] values = {997, 1002, 1005, 1005};
        int[] terms = {0, 27, 45, 45};
        for (int w = 0; w < 4; w++) {
            due("most", x.most(w, 0), values[w]);
            due("by", x.most(w, 1), terms[w]);
        }
        due("most of 6", x.most(6, 1), 45);
        law(x, "&ab");
        x.set(2, 0);
        due("one word is void", x.most(1, 0), NONE);
        due("one word is void", x.most(1, 1), NONE);
        due("two", x.most(2, 0), 1002);
        due("two", x.most(2, 1), 36);
        x.now(3);
        due("none", x.most(0, 0), 1002);
        x.things(4);
        x.worth(0, 0, -1);
        due("not a: the world of nothing", x.most(1, 0), 1000);
        due("not a: the world of nothing", x.most(1, 1), 54);
        law(x, "0");
        due("all void", x.most(6, 0), NONE);
    }

    private static void promise22() {
        WishLamp x = cousinsLamp();
        int[][] bad = {{0, 0, 0}, {4, 0, 0}, {1, -1, 0}, {1, 7, 0}, {1, 0, -1}, {1, 0, 2}};
        for (int[] b : bad) due("row", x.row(b[0], b[1], b[2]), OUTSIDE);
        x.set(0, 2);
        due("by no way", x.row(1, 0, 0), 997);
        due("one wish", x.row(1, 1, 0), 1002);
        due("one wish", x.row(1, 1, 1), 27);
        due("the last counts", x.row(2, 1, 0), 1002);
        due("the last counts", x.row(2, 1, 1), 0);
        x.set(2, 0);
        due("nothing stirs: a, then no b", x.row(2, 1, 0), 1005);
        x.now(2);
        due("two wishes", x.row(2, 1, 0), 1005);
        due("b first: the least number", x.row(2, 1, 1), 18);
        due("three: nothing first", x.row(3, 1, 1), 0);
        due("now is as it was", x.told(2), 2);
        law(x, "&cd");
        due("two must be said", x.row(3, 1, 0), 997);
        due("all are void", x.row(3, 1, 1), NONE);
        due("c, d", x.row(1, 2, 0), 997);
        due("c, d", x.row(1, 2, 1), 4);
        due("then a, no b", x.row(2, 2, 0), 1005);
        due("c, d first", x.row(2, 2, 1), 4);
        WishLamp y = lamp(6);
        y.worth(0, 5, 9);
        y.worth(0, 4, -9);
        due("f or not e: the least number", y.row(1, 1, 1), 1);
        due("neither is enough", y.row(1, 1, 0), 1000);
        due("nothing is worse", y.row(1, 0, 0), 991);
        due("f, not e", y.row(1, 2, 0), 1009);
        due("f, not e", y.row(1, 6, 1), 7);
        due("the last is enough", y.row(3, 6, 0), 1009);
        due("the last is enough", y.row(3, 6, 1), 0);
        y.set(2, 0);
        y.now(63);
        due("not e", y.row(1, 1, 0), 1009);
        due("not e", y.row(3, 1, 0), 1009);
        due("not e", y.row(1, 6, 1), 6);
        y.set(2, 1);
        due("not e, and f goes", y.row(1, 1, 0), 1000);
    }

    private static void promise23() {
        WishLamp x = cousinsLamp();
        due("the wisher", x.lamps(0, 7, 0), UNKNOWN);
        due("cousin", x.lamps(4, 0, 0), UNKNOWN);
        due("cousin", x.lamps(-1, 0, 0), UNKNOWN);
        due("words", x.lamps(1, 7, 0), OUTSIDE);
        due("words", x.lamps(1, -1, 0), OUTSIDE);
        due("what", x.lamps(1, 0, 2), OUTSIDE);
        due("what", x.lamps(1, 0, -1), OUTSIDE);
        due("1 says: not a; the least such world", x.lamps(1, 1, 0), 1000);
        due("all is one", x.lamps(1, 1, 1), 0);
        x.set(2, 0);
        due("1 undoes a", x.lamps(1, 1, 0), 1000);
        due("2 wants nothing", x.lamps(2, 1, 0), 1005);
        due("2 wants nothing", x.lamps(2, 1, 1), 27);
        x.worth(2, 1, 1);
        due("2 does b", x.lamps(2, 1, 0), 1002);
        law(x, "-b");
        due("the law forbids it", x.lamps(2, 1, 0), 1005);
        law(x, "&cd");
        due("all void", x.lamps(2, 1, 1), NONE);
        due("all void", x.lamps(2, 1, 0), 1000);
        x.set(1, 2);
        due("the wisher now", x.lamps(2, 1, 0), UNKNOWN);
        due("the other", x.lamps(0, 1, 1), NONE);
        WishLamp y = lamp(6);
        y.worth(0, 5, 9);
        y.worth(0, 4, -9);
        y.worth(1, 4, 1);
        y.set(2, 0);
        y.now(63);
        due("1 does e again", y.lamps(1, 1, 0), 1000);
        due("nothing helps", y.lamps(1, 1, 1), 0);
        due("2 lets it be", y.lamps(2, 6, 0), 1009);
        due("not e", y.lamps(2, 6, 1), 6);
        // b is worth as much to 1 as e: of one word b (81) or e (3), e is the least number
        y.now(32);
        y.worth(1, 1, 1);
        due("e", y.lamps(1, 1, 0), 1000);
        y.worth(1, 5, 1);
        due("not f, and 1 does f again, not e: the least number", y.lamps(1, 1, 0), 1009);
        due("not f", y.lamps(1, 1, 1), 2);
    }

    private static void promise24() {
        WishLamp x = new WishLamp();
        due("sixths", x.sixths(1, 2, 3, 0), 1);
        for (int c = 0; c < 4; c++) due("told", x.told(20 + c), (c + 1) % 4);
        due("too many", x.sixths(6, 1, 0, 0), OUTSIDE);
        due("too few", x.sixths(1, 1, 1, 2), OUTSIDE);
        due("less than none", x.sixths(7, -1, 0, 0), OUTSIDE);
        due("less than none", x.sixths(4, 3, -1, 0), OUTSIDE);
        due("one less than none", x.sixths(-1, 6, 1, 0), OUTSIDE);
        due("one less than none", x.sixths(6, -1, 1, 0), OUTSIDE);
        due("one less than none", x.sixths(1, 6, -1, 0), OUTSIDE);
        due("one less than none", x.sixths(1, 6, 0, -1), OUTSIDE);
        due("wraps round", x.sixths(Integer.MAX_VALUE, Integer.MAX_VALUE, 6, 2), OUTSIDE);
        due("nothing changed", x.told(20), 1);
        due("sixths", x.sixths(0, 0, 0, 6), 1);
    }

    private static void promise25() {
        WishLamp x = cousinsLamp();
        due("empty", x.votes(), NO);
        wish(x, "0");
        due("void", x.votes(), STATE);
        x.sixths(1, 2, 3, 0);
        wish(x, "a");
        due("0 gains", x.votes(), 1);
        x.worth(2, 1, 1);
        due("0, 2 gain", x.votes(), 4);
        x.now(3);
        due("as now: nobody gains", x.votes(), 0);
        wish(x, "-a");
        due("1 gains", x.votes(), 2);
        x.worth(0, 0, -1);
        wish(x, "&-a-b");
        due("the world of nothing", x.makes(), 0);
        due("all but 2 gain", x.votes(), 3);
    }

    private static void promise26() {
        WishLamp x = cousinsLamp();
        due("what", x.agreed(2), OUTSIDE);
        due("what", x.agreed(-1), OUTSIDE);
        due("0 alone: a, not b is worth most to all", x.agreed(0), 45);
        due("his votes", x.agreed(1), 6);
        x.sixths(3, 3, 0, 0);
        due("three", x.agreed(1), 3);
        x.sixths(0, 0, 6, 0);
        due("no votes: most to all, those without sixths, too", x.agreed(0), 45);
        due("no votes", x.agreed(1), 0);
        x.sixths(1, 1, 4, 0);
        x.worth(2, 3, 1);
        due("2 and one more", x.agreed(1), 5);
        due("a, not b, d", x.agreed(0), 46);
        x.things(4);
        due("all is one: no words", x.agreed(0), 0);
        x.worth(0, 0, -1);
        x.now(1);
        due("not a: the world of nothing", x.agreed(0), 54);
        due("all votes", x.agreed(1), 6);
        law(x, "0");
        due("void", x.agreed(0), NONE);
        due("void", x.agreed(1), NONE);
    }

    private static void promise27() {
        WishLamp x = cousinsLamp();
        due("empty", x.paid(), NO);
        wish(x, "0");
        due("void", x.paid(), STATE);
        wish(x, "&a-b");
        due("0 alone", x.paid(), 0);
        x.sixths(3, 3, 0, 0);
        due("0 pays 1", x.paid(), 4);
        x.worth(1, 0, -5);
        due("all that he gains", x.paid(), 5);
        x.worth(1, 0, -6);
        due("too little", x.paid(), NONE);
        x.worth(2, 0, 9);
        due("2 has no sixth and pays not", x.paid(), NONE);
        x.sixths(3, 2, 1, 0);
        due("2 pays, too", x.paid(), 6);
        x.sixths(3, 0, 3, 0);
        due("1 has no sixth and is not paid", x.paid(), 0);
        x.sixths(0, 6, 0, 0);
        due("nobody gains", x.paid(), NONE);
        x.sixths(0, 0, 0, 6);
        due("nobody gains, nobody loses", x.paid(), 0);
        x.now(1);
        x.sixths(3, 3, 0, 0);
        wish(x, "&-a-b");
        due("the world of nothing", x.makes(), 0);
        due("1 pays 0", x.paid(), 5);
    }

    private static void promise28() {
        WishLamp x = new WishLamp();
        due("world", x.picked(16), OUTSIDE);
        due("world", x.picked(-1), OUTSIDE);
        due("fault", x.picked(0), NO);
        wish(x, "a");
        due("does not keep it", x.picked(0), NO);
        for (int i = 1; i <= 6; i++) due("picked", x.picked(1), i);
        due("full", x.picked(1), FULL);
        due("OUTSIDE ahead of FULL", x.picked(16), OUTSIDE);
        due("NO ahead of FULL", x.picked(0), NO);
        due("told", x.told(7), 6);
        due("by the first as by all", x.fit(-1), 24);
    }

    private static void promise29() {
        WishLamp x = new WishLamp();
        due("thing", x.fit(4), UNKNOWN);
        due("thing", x.fit(-3), UNKNOWN);
        due("all", x.fit(-1), 81);
        due("the least", x.fit(-2), 0);
        due("can be", x.fit(3), 7);
        wish(x, "1");
        x.set(0, 2);
        x.picked(3);
        due("a and b liked, no other", x.fit(-1), 4);
        due("the least", x.fit(-2), 72);
        due("a", x.fit(0), 4);
        due("c", x.fit(2), 3);
        wish(x, "^ab");
        x.picked(1);
        due("as all do", x.fit(-1), 4);
        // c shall be so, at most one other stirs: 4 (none) or 5, 6, 12; 5 is taken
        x.set(2, 1);
        wish(x, "c");
        x.picked(5);
        due("seen as it was then", x.fit(-1), 4);
        x.set(2, 6);
        law(x, "0");
        x.now(7);
        due("later changes are nothing to it", x.fit(-1), 4);
        due("the taste of the spirit is nothing to it", x.taste(0, -9), 1000);
        due("still so", x.fit(0), 4);
        x.forget();
        law(x, "1");
        wish(x, "1");
        x.picked(0);
        x.picked(15);
        due("none", x.fit(-1), 0);
        due("none", x.fit(-2), NONE);
        due("none", x.fit(0), 0);
        x.forget();
        wish(x, "&=ab&=bc=cd");
        x.picked(0);
        due("all or none: none", x.fit(-1), 50);
        x.forget();
        x.picked(15);
        due("all or none: all", x.fit(-1), 31);
        due("of six", lamp(6).fit(-1), 729);
        WishLamp y = lamp(6);
        wish(y, "1");
        y.picked(63);
        due("all six are liked", y.fit(-1), 1);
        due("all six are liked", y.fit(-2), 728);
        due("all six are liked", y.fit(5), 4);
        due("of two", lamp(2).fit(2), UNKNOWN);
    }

    private static void promise30() {
        WishLamp x = new WishLamp();
        due("worlds", x.came(16, 0), OUTSIDE);
        due("worlds", x.came(0, 16), OUTSIDE);
        due("worlds", x.came(-1, 0), OUTSIDE);
        due("worlds", x.came(0, -1), OUTSIDE);
        for (int i = 1; i <= 6; i++) due("came", x.came(i, i), i);
        due("full", x.came(0, 1), FULL);
        due("OUTSIDE ahead of FULL", x.came(0, 16), OUTSIDE);
        due("told", x.told(8), 6);
    }

    private static void promise31() {
        WishLamp x = cousinsLamp();
        due("what", x.letters(2), OUTSIDE);
        due("what", x.letters(-1), OUTSIDE);
        due("all", x.letters(0), 81);
        due("the least", x.letters(1), 0);
        x.came(0, 3);
        // a, and b or nothing of b, c and d: not so or nothing
        due("a", x.letters(0), 8);
        due("a", x.letters(1), 27);
        x.set(2, 0);
        due("as it is at the asking: a, b", x.letters(0), 4);
        due("a, b", x.letters(1), 36);
        x.came(14, 15);
        due("c, d not said", x.letters(0), 1);
        x.came(0, 1);
        due("none", x.letters(0), 0);
        due("none", x.letters(1), NONE);
        x.forget();
        x.set(2, 6);
        x.set(0, 2);
        x.came(6, 7);
        due("the nearest: a, the rest as it was or not said", x.letters(0), 8);
        x.came(8, 9);
        due("only a", x.letters(0), 1);
        due("only a", x.letters(1), 27);
        law(x, "b");
        due("the second can not be now", x.letters(0), 0);
    }

    private static void promise32() {
        WishLamp x = new WishLamp();
        due("none", x.forget(), 0);
        wish(x, "1");
        x.picked(15);
        x.picked(0);
        x.came(0, 0);
        due("three", x.forget(), 3);
        due("none", x.told(7), 0);
        due("none", x.told(8), 0);
        due("all tastes", x.fit(-1), 81);
        due("all terms", x.letters(0), 81);
        due("none", x.forget(), 0);
        due("the pad stays", x.told(0), 1);
    }

    private static void promise33() {
        WishLamp x = cousinsLamp();
        due("thing", x.drunk(4, 2), LOST + UNKNOWN);
        due("thing", x.drunk(-1, 0), LOST + UNKNOWN);
        due("part", x.drunk(0, 2), LOST + OUTSIDE);
        due("part", x.drunk(0, -1), LOST + OUTSIDE);
        due("fault", x.drunk(0, 0), LOST + NO);
        wish(x, "0");
        due("void", x.drunk(0, 1), LOST + STATE);
        wish(x, "|ab");
        due("2 of 3", x.drunk(0, 0), 2);
        due("2 of 3", x.drunk(0, 1), 3);
        due("1 of 2", x.drunk(3, 0), 1);
        due("1 of 2", x.drunk(3, 1), 2);
        wish(x, "a");
        due("sure", x.drunk(0, 0), 1);
        due("sure", x.drunk(0, 1), 1);
        wish(x, "-a");
        due("never", x.drunk(0, 0), 0);
        due("never", x.drunk(0, 1), 1);
    }

    private static void promise34() {
        WishLamp x = cousinsLamp();
        due("cousin", x.mean(4, 2), LOST + UNKNOWN);
        due("cousin", x.mean(-1, 0), LOST + UNKNOWN);
        due("part", x.mean(0, 2), LOST + OUTSIDE);
        due("part", x.mean(0, -1), LOST + OUTSIDE);
        due("fault", x.mean(0, 0), LOST + NO);
        wish(x, "0");
        due("void", x.mean(0, 1), LOST + STATE);
        wish(x, "|ab");
        // 5, -3, 2 by thirds: 4/3, and 1000
        due("3004 of 3", x.mean(0, 0), 3004);
        due("3004 of 3", x.mean(0, 1), 3);
        // -4, 0, -4: -8/3
        due("2992 of 3", x.mean(1, 0), 2992);
        due("2992 of 3", x.mean(1, 1), 3);
        due("1000", x.mean(3, 0), 1000);
        due("1000", x.mean(3, 1), 1);
    }

    private static void promise35() {
        WishLamp x = cousinsLamp();
        int[][] bad = {{-1, 1, 0}, {10000, 1, 0}, {0, 0, 0}, {0, 100, 0}, {0, 1, -1}, {0, 1, 3}};
        for (int[] b : bad) due("year", x.year(b[0], b[1], b[2]), OUTSIDE);
        // 74 = 2202: not a, not b, not d
        due("74", x.year(0, 1, 0), 0);
        due("74", x.year(0, 1, 1), 0);
        due("74", x.year(0, 1, 2), 0);
        // 75 * 1 + 74 = 149, less 81: 68 = 2112: not a, b, c, not d
        due("68", x.year(1, 1, 1), 6);
        due("it harms", x.year(1, 1, 2), 1);
        // 75 * 149 + 74 = 11249 = 138 * 81 + 71: not a, b, not c, not d
        due("71", x.year(1, 2, 1), 2);
        due("2 is no worse than 6", x.year(1, 2, 2), 1);
        due("now is as it was", x.told(2), 0);
        law(x, "-b");
        due("68, 71 are void", x.year(1, 2, 0), 2);
        due("nothing happened", x.year(1, 2, 1), 0);
        law(x, "0");
        due("all void", x.year(9999, 99, 0), 99);
        due("no harm", x.year(9999, 99, 2), 0);
    }

    private static void promise36() {
        WishLamp x = new WishLamp();
        due("image", x.image(-1), OUTSIDE);
        due("image", x.image(2), OUTSIDE);
        due("image", x.image(0), 1);
        x.now(3);
        due("image", x.image(1), 1);
        x.now(5);
        x.restore(0);
        due("first", x.told(2), 0);
        x.restore(1);
        due("second", x.told(2), 3);
        x.image(0);
        x.now(9);
        x.restore(0);
        due("over the first", x.told(2), 3);
    }

    private static void promise37() {
        WishLamp x = cousinsLamp();
        due("restore", x.restore(-1), OUTSIDE);
        due("restore", x.restore(2), OUTSIDE);
        due("restore", x.restore(1), STATE);
        x.taste(1, 7);
        x.set(0, 1);
        x.set(1, 1);
        x.set(2, 4);
        x.sixths(2, 2, 2, 0);
        law(x, "|ab");
        wish(x, "a");
        due("grant", x.grant(), 3);
        wish(x, "a");
        due("picked", x.picked(3), 1);
        x.came(3, 1);
        int[] before = new int[70];
        for (int i = 0; i < 70; i++) before[i] = x.told(i);
        int fits = x.fit(-1);
        int letters = x.letters(0);
        x.image(1);
        for (int round = 0; round < 2; round++) {
            x.things(2);
            x.worth(0, 0, 9);
            x.taste(1, -9);
            x.sixths(0, 0, 0, 6);
            x.now(1);
            wish(x, "bbb");
            due("restore", x.restore(1), 1);
            due("but the pad", x.told(0), 3);
            for (int i = 1; i < 70; i++) due("told(" + i + ")", x.told(i), before[i]);
            due("fit", x.fit(-1), fits);
            due("letters", x.letters(0), letters);
        }
        due("undo", x.undo(), 0);
        due("the image stands", x.restore(1), 1);
        due("now", x.told(2), 3);
        due("restore(0)", x.restore(0), STATE);
        due("another one", new WishLamp().restore(1), STATE);
        x.now(9);
        wish(x, "1");
        due("grant", x.grant(), 2);
        x.forget();
        x.set(2, 0);
        x.came(5, 3);
        letters = x.letters(0);
        due("b, not c; a, not d or not said", letters, 4);
        x.image(0);
        x.undo();
        x.now(2);
        x.forget();
        wish(x, "1");
        x.grant();
        x.came(1, 1);
        x.restore(0);
        due("the same terms", x.letters(0), letters);
        due("undo", x.undo(), 9);
    }

    private static void promise38() {
        WishLamp x = lamp(3);
        int[] bad = {-1, 13, 14, 19, 24, 29, 33, 36, 39, 43, 63, 66, 69, 70, 100, Integer.MIN_VALUE, Integer.MAX_VALUE};
        for (int b : bad) due("told(" + b + ")", x.told(b), OUTSIDE);
        for (int t = 0; t < 3; t++) x.taste(t, t - 9);
        for (int c = 0; c < 4; c++) {
            for (int t = 0; t < 3; t++) x.worth(c, t, c - t);
        }
        for (int t = 0; t < 3; t++) due("taste", x.told(10 + t), 991 + t);
        for (int c = 0; c < 4; c++) {
            for (int t = 0; t < 3; t++) due("worth", x.told(10 * (3 + c) + t), 1000 + c - t);
        }
        x.sixths(1, 0, 2, 3);
        due("sixths", x.told(22), 2);
        due("sixths", x.told(23), 3);
        law(x, ">ab");
        x.set(0, 1);
        x.set(1, 3);
        x.set(2, 5);
        x.now(4);
        wish(x, "c");
        x.grant();
        wish(x, "|cc");
        x.picked(4);
        x.picked(7);
        x.came(1, 2);
        int[] want = {3, 3, 4, 1, 3, 5, 1, 2, 1, 6};
        for (int i = 0; i < want.length; i++) due("told(" + i + ")", x.told(i), want[i]);
    }

    private static void firstHalf() {
        promise1();
        promise2();
        promise3();
        promise4();
        promise5();
        promise6();
        promise7();
        promise8();
        promise9();
        promise10();
        promise11();
        promise12();
        promise13();
        promise14();
        promise15();
        promise16();
        promise17();
        promise18();
        promise19();
    }

    private static void secondHalf() {
        promise20();
        promise21();
        promise22();
        promise23();
        promise24();
        promise25();
        promise26();
        promise27();
        promise28();
        promise29();
        promise30();
        promise31();
        promise32();
        promise33();
        promise34();
        promise35();
        promise36();
        promise37();
        promise38();
    }

    public static void main(String[] args) {
        firstHalf();
        secondHalf();
        System.out.println(asked + " answers asked for, " + wrong + " not as due");
        if (wrong != 0) System.exit(1);
    }
}
