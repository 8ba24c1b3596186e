import java.io.IOException;
import java.lang.reflect.Method;
import java.nio.file.Files;
import java.nio.file.Path;

/**
 * The document from its first line to its last: each piece of it stands here in its own words, ahead of calls that would
 * answer otherwise if it were broken. The pieces must follow one another as they do in the document, and no word may be
 * left out; so a sentence without a case of its own can not be.
 */
public final class DocumentTest extends Boundary {
    private static String document = "";
    private static int at = 0;

    /** The document goes on with these words, which hold if the calls answer as due. */
    private static void reads(String words, Body body) {
        test(words, () -> {
            goesOn(words);
            body.run();
        });
    }

    /** Words that say nothing by themselves, or what another test holds them to. */
    private static void passes(String words) {
        test(words, () -> goesOn(words));
    }

    private static void goesOn(String words) {
        boolean so = document.startsWith(words, at);
        due("the document goes on otherwise: " + document.substring(at, Math.min(at + 60, document.length())), so ? 1 : 0, 1);
        int found = document.indexOf(words, at);
        if (found >= 0) at = found + words.length();
        while (at < document.length() && document.charAt(at) == ' ') at++;
    }

    /** A promise's heading and the call that it is about, which must be there with just these types. */
    private static void promise(int number, String name, String call) {
        test("Promise " + number, () -> {
            goesOn("## Promise " + number + ": " + name + " `" + call + "`:");
            if (number == 1) return;
            int count = call.endsWith("()") ? 0 : call.split(",").length;
            Class<?>[] types = new Class<?>[count];
            java.util.Arrays.fill(types, int.class);
            due(call, isThere(call.substring(0, call.indexOf(' ')), name, types) ? 1 : 0, 1);
        });
    }

    private static boolean isThere(String answer, String name, Class<?>[] types) {
        try {
            Method m = WishLamp.class.getMethod(name, types);
            return m.getReturnType().getName().equals(answer);
        } catch (NoSuchMethodException e) {
            return false;
        }
    }

    // ---- lamps

    /** What the worlds 0 to 7 are worth to cousin 0: 0, 4, -2, 2, 1, 5, -1, 3; to cousin 1: 0, -1, 3, 2, 0, -1, 3, 2. */
    private static WishLamp three() {
        WishLamp x = lamp(3);
        x.worth(0, 0, 4);
        x.worth(0, 1, -2);
        x.worth(0, 2, 1);
        x.worth(1, 0, -1);
        x.worth(1, 1, 3);
        return x;
    }

    /** Of two things, just these worlds keep the wish. */
    private static void keeps(WishLamp x, String text, int... worlds) {
        wish(x, text);
        due("how many keep " + text, x.kept(-1), worlds.length);
        for (int i = 0; i < worlds.length; i++) due("kept(" + i + ") of " + text, x.kept(i), worlds[i]);
        due("no more keep " + text, x.kept(worlds.length), NONE);
    }

    private static void faultIs(WishLamp x, String text, int want) {
        due("fault of " + text, wish(x, text).fault(), want);
    }

    private static void commaIs(WishLamp x, String text, int place, int sign, int value) {
        wish(x, text);
        due("place in " + text, x.comma(0), place);
        due("sign in " + text, x.comma(1), sign);
        due("worth of " + text, x.comma(2), value);
    }

    private static void tastesAre(WishLamp x, int count, int least, int... each) {
        due("fit(-1)", x.fit(-1), count);
        due("fit(-2)", x.fit(-2), least);
        for (int t = 0; t < each.length; t++) due("fit(" + t + ")", x.fit(t), each[t]);
    }

    interface At {
        long of(int v);
    }

    interface Ask {
        long of(WishLamp x);
    }

    /** Both ends are taken; beyond them, and far off, it is refused so. */
    private static void within(int low, int high, long refusal, At call) {
        for (int v : new int[] {low, high}) due("of " + v + ", refused", call.of(v) == refusal ? 1 : 0, 0);
        for (int v : new int[] {low - 1, high + 1, MIN, MAX}) due("of " + v, call.of(v), refusal);
    }

    /** NO of what has a fault, whether or not it would be void; STATE of what is void. */
    private static void noAndState(Ask ask, long no, long state) {
        for (String faulty : new String[] {"", "|a", "ab", "?", times(24, "-") + "a"}) {
            due("of " + faulty, ask.of(wish(three(), faulty)), no);
            due("of " + faulty + ", and void", ask.of(wish(law(three(), "0"), faulty)), no);
        }
        due("of 0", ask.of(wish(three(), "0")), state);
        due("of a against the law", ask.of(wish(law(three(), "-a"), "a")), state);
        WishLamp x = law(three(), "b");
        x.set(2, 0);
        due("of a, and b is still", ask.of(wish(x, "a")), state);
        due("of b, refused", ask.of(wish(x, "b")) == state ? 1 : 0, 0);
    }

    // ---- what it is, the face

    private static void whatItIs() {
        passes("# WishLamp ## What it is");
        reads("Three wishes and a lawyer: a lamp whose spirit does each wish to the letter, and hates who wishes, so that harm comes by "
            + "what was not said; a world of things that are so or not, what each is worth to whom; wishes and a law told as small texts "
            + "of what shall be, must stay, if, unless; what a wish leaves open: all worlds that keep its letter, the worst of them, for "
            + "whom; what the spirit makes of it, by its law; wishes granted, undone; wordings in the fewest words by which one has so "
            + "much at least, what can never be had; rows of wishes against a spirit that picks the worst, each drawn up when the earlier "
            + "ones have come out: from the last back; harms by one comma; cousins who own the lamp by sixths: votes, wishes on which "
            + "most can agree, shares paid so that all do; what the spirit wants, from what it picked: all tastes that fit; a wish that "
            + "was made long ago, from what came of it: all wordings that fit; a drunken spirit by chance, exactly; two lamps, one of "
            + "whom undoes what the other one does; years by draws; images.", () -> {
                WishLamp x = three();
                due("a, to the letter, and b by what was not said", wish(x, "a").grant(), 3);
                due("a must stay, b goes", wish(x, "&~a-b").grant(), 1);
                due("if a, then c; a must stay, b must stay", wish(x, "&>ac&~a~b").grant(), 5);
                due("undone", x.undo(), 1);
                due("undone", x.undo(), 3);
            });
        reads("An object is used for at most 512 calls after it has been made; what later calls answer is free.", () -> {
            WishLamp x = new WishLamp();
            for (int call = 1; call <= 509; call++) due("call " + call, x.now(call % 16), call == 1 ? 0 : (call - 1) % 16);
            due("the 510th call", x.say('a'), 1);
            due("the 511th call", x.grant(), 1);
            due("the 512th call", x.undo(), 13);
        });
        passes(face());
        test("the constants", () -> {
            due("NONE", WishLamp.NONE, -6);
            due("UNKNOWN", WishLamp.UNKNOWN, -1);
            due("OUTSIDE", WishLamp.OUTSIDE, -2);
            due("STATE", WishLamp.STATE, -3);
            due("FULL", WishLamp.FULL, -4);
            due("NO", WishLamp.NO, -5);
            due("LOST", WishLamp.LOST, -1000000000000000000L);
        });
    }

    /** The face is taken as it is printed: FaceTest compares it with the class, line by line. */
    private static String face() {
        int from = document.indexOf("## The public face");
        int to = document.indexOf("## Terms");
        return from < 0 || to < from ? "no face" : document.substring(from, to).trim();
    }

    // ---- terms: refusals, fractions

    private static void refusals() {
        passes("## Terms");
        reads("Calls that are refused answer, the first of these that fits: UNKNOWN -1 (there is no such THING, COUSIN), OUTSIDE -2 "
            + "(another number is not as told), NO -5 (as told), STATE -3 (as told), FULL -4.", () -> {
                WishLamp x = law(lamp(3), "0");
                due("all is wrong", x.extreme(4, 2, 2), UNKNOWN);
                due("no such thing", x.drunk(3, 2), LOST + UNKNOWN);
                due("all but the cousin", x.extreme(3, 2, 2), OUTSIDE);
                due("fault and void", x.extreme(3, 1, 1), NO);
                due("void", wish(x, "1").extreme(3, 1, 1), STATE);
                law(x, "a");
                wish(x, "1");
                for (int i = 0; i < 6; i++) x.picked(1);
                due("no world, faulty, full", wish(x, "").picked(8), OUTSIDE);
                due("faulty, full", x.picked(1), NO);
                due("full", wish(x, "1").picked(1), FULL);
                wish(x, times(40, "a"));
                due("no sign, full", x.say(127), OUTSIDE);
                due("full", x.say('a'), FULL);
            });
        reads("They change nothing.", () -> {
            WishLamp x = full();
            int[] before = allTold(x);
            int fits = x.fit(-2);
            int letters = x.letters(1);
            int[] refused = {x.things(7), x.worth(4, 0, 1), x.worth(0, 0, 10), x.taste(4, 1), x.taste(0, 10), x.set(0, 3), x.set(1, 4),
                x.set(2, 7), x.set(3, 0), x.now(16), x.say(32), x.sixths(6, 1, 0, 0), x.picked(16), x.picked(0), x.came(0, 16),
                x.image(2), x.restore(2), x.restore(0), x.term(81), x.told(70)};
            for (int r : refused) due("refused", r < 0 ? 1 : 0, 1);
            for (int i = 0; i < 70; i++) due("told(" + i + ")", x.told(i), before[i]);
            due("fit", x.fit(-2), fits);
            due("letters", x.letters(1), letters);
            due("the wish", x.makes(), 1);
            due("what can be undone", x.undo(), 0);
        });
        reads("Fractions are told in lowest terms by part: 0 the upper, 1 the lower number; refused with LOST and the refusal.", () -> {
            WishLamp x = wish(three(), "|ab");
            // of 1, 2, 3, 5, 6, 7 four have a; worth 4 - 2 + 2 + 5 - 1 + 3 = 11 of 6
            partsAre(x.drunk(0, 0), x.drunk(0, 1), 2, 3);
            partsAre(x.mean(0, 0), x.mean(0, 1), 6011, 6);
            partsAre(x.mean(1, 0), x.mean(1, 1), 3004, 3);
            due("part 2", x.drunk(0, 2), -1000000000000000002L);
            due("part -1", x.mean(0, -1), -1000000000000000002L);
            due("no cousin", x.mean(4, 0), -1000000000000000001L);
            due("fault", wish(x, "&").mean(0, 0), -1000000000000000005L);
            due("void", wish(x, "0").drunk(0, 1), -1000000000000000003L);
        });
        reads("What something is worth is told and 1000.", () -> {
            WishLamp x = wish(three(), "|bc");
            due("worthOf", x.worthOf(0, 6), 999);
            due("extreme", x.extreme(0, 0, 0), 998);
            due("comma", x.comma(2), 999);
            due("most", x.most(0, 0), 998);
            due("row", x.row(1, 3, 0), 1005);
            due("lamps", x.lamps(1, 0, 0), 1004);
            due("mean", wish(x, "&-ab").mean(0, 0), 1997);
            due("told", x.told(31), 998);
        });
    }

    // ---- terms 1: things, worlds, clauses

    private static void things() {
        passes("======== 1");
        reads("THINGS 0 to n less 1 (a on; n 2 to 6; 4 at first), each so or not.", () -> {
            due("four", new WishLamp().told(1), 4);
            due("one", new WishLamp().things(1), OUTSIDE);
            due("seven", new WishLamp().things(7), OUTSIDE);
            for (int n = 2; n <= 6; n++) {
                WishLamp x = lamp(n);
                due("thing " + (n - 1), x.taste(n - 1, 0), 1000);
                due("no thing " + n, x.taste(n, 0), UNKNOWN);
                due("no thing -1", x.taste(-1, 0), UNKNOWN);
                faultIs(x, "" + "abcdef".charAt(n - 1), NONE);
                faultIs(x, "" + "abcdefg".charAt(n), 0);
                due("each so or not", wish(x, "1").kept(-1), 1 << n);
            }
        });
        reads("A WORLD is told as bits (THING a is bit 0): those that are so; NOW is one (0 at first).", () -> {
            WishLamp x = lamp(6);
            due("at first", x.told(2), 0);
            for (int t = 0; t < 6; t++) due("just one", wish(x, just(6, 1 << t)).makes(), 1 << t);
            due("a, c, d", wish(x, "&a&-b&c&d&-e-f").makes(), 13);
            due("now", x.now(13), 0);
            due("now", x.now(0), 13);
        });
        reads("COUSINS 0 to 3; WORTH of a THING to a COUSIN, if it is so (-9 to 9; 0 at first); of a WORLD: of all that is so in it, together.", () -> {
            WishLamp x = new WishLamp();
            for (int c = 0; c < 4; c++) due("at first", x.worth(c, 3, 9 - c), 1000);
            due("no cousin 4", x.worth(4, 3, 1), UNKNOWN);
            due("no cousin -1", x.worth(-1, 3, 1), UNKNOWN);
            due("10", x.worth(2, 3, 10), OUTSIDE);
            due("-10", x.worth(2, 3, -10), OUTSIDE);
            due("-9", x.worth(2, 0, -9), 1000);
            due("9", x.worth(2, 1, 9), 1000);
            due("none is so", x.worthOf(2, 0), 1000);
            due("a", x.worthOf(2, 1), 991);
            due("a, d", x.worthOf(2, 9), 998);
            due("all", x.worthOf(2, 15), 1007);
            due("all, to another one", x.worthOf(1, 15), 1008);
        });
        reads("TASTE of the SPIRIT for a THING (-9 to 9; 0 at first), of a WORLD likewise.", () -> {
            WishLamp x = wish(lamp(3), "|&ab&-a-b");
            due("at first", x.taste(0, 9), 1000);
            due("10", x.taste(1, 10), OUTSIDE);
            due("-10", x.taste(1, -10), OUTSIDE);
            due("-9", x.taste(1, -9), 1000);
            x.set(0, 1);
            due("9 less 9: as none", x.makes(), 0);
            x.taste(1, -8);
            due("9 less 8", x.makes(), 3);
            x.taste(2, 1);
            due("and c", x.makes(), 7);
        });
        reads("THE WISHER is a COUSIN (0 at first).", () -> {
            WishLamp x = wish(three(), "|ac");
            due("at first", x.told(4), 0);
            due("for him", x.makes(), 6);
            due("no cousin 4", x.set(1, 4), OUTSIDE);
            due("no cousin -1", x.set(1, -1), OUTSIDE);
            due("1", x.set(1, 1), 0);
            due("for 1", x.makes(), 1);
            due("3", x.set(1, 3), 1);
        });
    }

    private static void signs() {
        reads("A CLAUSE is a text, its parts behind it:", () -> {
            keeps(lamp(2), "&-ab", 2);
            keeps(lamp(2), "-&ab", 0, 1, 2);
            keeps(lamp(2), "&|ab-b", 1);
            keeps(lamp(2), "&a|b-b", 1, 3);
            faultIs(lamp(2), "a&b", 1);
        });
        reads("a letter a on (that THING is so),", () -> {
            keeps(lamp(2), "a", 1, 3);
            keeps(lamp(2), "b", 2, 3);
            faultIs(lamp(2), "c", 0);
            faultIs(lamp(2), "A", 0);
        });
        reads("~ and a letter (it is as it is NOW),", () -> {
            WishLamp x = lamp(2);
            keeps(x, "~a", 0, 2);
            x.now(1);
            keeps(x, "~a", 1, 3);
            keeps(x, "~b", 0, 1);
            faultIs(x, "~1", 1);
            faultIs(x, "~-a", 1);
        });
        reads("0 (never),", () -> keeps(lamp(2), "0"));
        reads("1 (always),", () -> keeps(lamp(2), "1", 0, 1, 2, 3));
        reads("- and a part (not),", () -> {
            keeps(lamp(2), "-a", 0, 2);
            keeps(lamp(2), "-|ab", 0);
            keeps(lamp(2), "-~a", 1, 3);
        });
        reads("& and two parts (both),", () -> keeps(lamp(2), "&ab", 3));
        reads("| (one, at least),", () -> keeps(lamp(2), "|ab", 1, 2, 3));
        reads("> (if the first, the second),", () -> {
            keeps(lamp(2), ">ab", 0, 2, 3);
            keeps(lamp(2), ">ba", 0, 1, 3);
        });
        reads("= (both or none),", () -> keeps(lamp(2), "=ab", 0, 3));
        reads("^ (just one).", () -> keeps(lamp(2), "^ab", 1, 2));
        reads("It is of 24 signs at most; a PAD has 40 (codes 33 to 126).", () -> {
            WishLamp x = new WishLamp();
            faultIs(x, times(23, "-") + "d", NONE);
            faultIs(x, times(24, "-") + "d", 24);
            x.wipe();
            for (int i = 1; i <= 40; i++) due("say", x.say(i <= 20 ? 33 : 126), i);
            due("41st", x.say('a'), FULL);
            due("32", new WishLamp().say(32), OUTSIDE);
            due("127", new WishLamp().say(127), OUTSIDE);
        });
        reads("THE FAULT: the place (from 0 on) of the first sign that can not stand there (a 25th, too); the number of signs, if more must come.", () -> {
            WishLamp x = new WishLamp();
            faultIs(x, "", 0);
            faultIs(x, "?", 0);
            faultIs(x, "bb", 1);
            faultIs(x, "&a?", 2);
            faultIs(x, "&ab?", 3);
            faultIs(x, "?a?", 0);
            faultIs(x, times(24, "-") + "?", 24);
            faultIs(x, times(12, "|") + times(12, "a") + "b", 24);
            faultIs(x, "|", 1);
            faultIs(x, "|a", 2);
            faultIs(x, "|a~", 3);
            faultIs(x, times(24, "-"), 24);
            faultIs(x, "|a~b", NONE);
        });
    }

    private static void keeping() {
        reads("THE LAW is a CLAUSE that each WORLD must keep (at first always; NOW need not).", () -> {
            WishLamp x = lamp(2);
            due("always", x.told(9), 4);
            keeps(x, "1", 0, 1, 2, 3);
            law(x, "^ab");
            keeps(x, "1", 1, 2);
            due("now does not keep it", x.told(2), 0);
            due("nor then", x.now(3), 0);
            due("what is granted does", wish(x, "b").grant(), 2);
        });
        reads("A WISH is the CLAUSE on the PAD.", () -> {
            WishLamp x = three();
            due("none", x.makes(), NO);
            x.say('c');
            due("c", x.makes(), 6);
            x.say('c');
            due("cc is none", x.makes(), NO);
            x.wipe();
            x.say('0');
            due("0", x.makes(), STATE);
        });
        reads("It SAYS the THINGS whose letters are in it.", () -> {
            WishLamp x = lamp(3);
            x.set(2, 0);
            keeps(x, "1", 0);
            keeps(x, "|a1", 0, 1);
            keeps(x, "|~c1", 0, 4);
            keeps(x, "|a|c1", 0, 1, 4, 5);
            keeps(x, "-b", 0);
            law(x, "a");
            keeps(x, "|b1");
            keeps(x, "|a|b1", 1, 3);
            WishLamp y = lamp(6);
            y.set(2, 0);
            for (String text : new String[] {"&a1", "|a0", ">1a", "=a1", "^a0", "--a"}) keeps(y, text, 1);
        });
        reads("STILL (0 to 6; 6 at first): so many THINGS that are not SAID, at most, are otherwise than NOW in a WORLD that KEEPS a WISH; "
            + "it keeps the CLAUSE and THE LAW, too.", () -> {
                WishLamp x = lamp(3);
                due("six", x.told(5), 6);
                x.now(5);
                x.set(2, 1);
                // b, and one of a, c at most goes
                keeps(x, "b", 3, 6, 7);
                keeps(x, "-b", 1, 4, 5);
                x.set(2, 2);
                keeps(x, "b", 2, 3, 6, 7);
                x.set(2, 0);
                keeps(x, "b", 7);
                x.set(2, 1);
                law(x, "-&ab");
                keeps(x, "b", 6);
                due("seven", x.set(2, 7), OUTSIDE);
                due("-1", x.set(2, -1), OUTSIDE);
                due("six", x.set(2, 6), 1);
                keeps(x, "b", 2, 6);
            });
        reads("VOID: no WORLD KEEPS it.", () -> {
            WishLamp x = lamp(2);
            due("by its words", wish(x, "&a-a").makes(), STATE);
            law(x, "=ab");
            due("by the law", wish(x, "&a-b").makes(), STATE);
            x.set(2, 0);
            due("by what must be still", wish(x, "b").makes(), STATE);
            due("not void", wish(x, "&ab").makes(), 3);
        });
    }

    // ---- terms 2: what the spirit makes

    private static void spirit() {
        passes("======== 2");
        reads("THE SPIRIT makes of a WISH one of the WORLDS that KEEP it, by its WAY:", () -> {
            String[] texts = {"|ac", "-a", "^ac", "&a|bc"};
            int[][] made = {{6, 2, 6, 3}, {4, 4, 4, 5}, {1, 0, 1, 3}};
            for (int way = 0; way <= 2; way++) {
                WishLamp x = three();
                x.taste(1, -1);
                x.taste(2, 2);
                x.set(0, way);
                x.now(1);
                for (int i = 0; i < texts.length; i++) due("of " + texts[i] + ", way " + way, wish(x, texts[i]).makes(), made[way][i]);
            }
        });
        reads("0 (at first) that of the least WORTH to THE WISHER;", () -> {
            WishLamp x = wish(three(), "|ac");
            due("at first", x.told(3), 0);
            due("worth -1", x.makes(), 6);
            x.taste(0, 9);
            x.now(1);
            due("tastes and now are nothing to it", x.makes(), 6);
            x.set(1, 1);
            due("worth -1 to cousin 1", x.makes(), 1);
        });
        reads("1 that of the greatest TASTE;", () -> {
            WishLamp x = wish(three(), "|ac");
            x.taste(0, -3);
            x.taste(1, 2);
            x.taste(2, 2);
            x.set(0, 1);
            due("b and c", x.makes(), 6);
            due("all, as a must be", wish(x, "a").makes(), 7);
            due("c, as b must not be", wish(x, "-b").makes(), 4);
        });
        reads("2 that in which the fewest THINGS are otherwise than NOW, of these of the least WORTH to THE WISHER;", () -> {
            WishLamp x = wish(three(), "|ac");
            x.set(0, 2);
            x.now(2);
            due("3 and 6 are near, 6 is worth less", x.makes(), 6);
            x.set(1, 1);
            due("3 is worth less to cousin 1", x.makes(), 3);
            x.now(7);
            due("as it is now", x.makes(), 7);
            x.set(1, 0);
            due("not b: the nearest is worth the most", wish(x, "-b").makes(), 5);
        });
        reads("of several the least as bits.", () -> {
            WishLamp x = wish(lamp(3), "|bc");
            due("way 0", x.makes(), 2);
            x.set(0, 1);
            due("way 1", x.makes(), 2);
            x.set(0, 2);
            due("way 2", x.makes(), 2);
            x.now(7);
            due("way 2, one goes", wish(x, "^bc").makes(), 3);
        });
        reads("WORST, BEST of a WISH for a COUSIN: the least, the greatest WORTH of WORLDS that KEEP it, and the least such WORLD.", () -> {
            WishLamp x = wish(three(), "|ac");
            int[][] want = {{999, 6, 1005, 5}, {999, 1, 1003, 6}, {1000, 1, 1000, 1}};
            for (int c = 0; c < 3; c++) {
                for (int i = 0; i < 4; i++) due("extreme(" + c + ", " + i / 2 + ", " + i % 2 + ")", x.extreme(c, i / 2, i % 2), want[c][i]);
            }
            wish(x, "=ab");
            due("the world of nothing is the worst", x.extreme(0, 0, 1), 0);
            due("worth 0", x.extreme(0, 0, 0), 1000);
        });
        reads("HARMED: COUSINS for whom what THE SPIRIT makes is worth less than NOW.", () -> {
            WishLamp x = wish(three(), "c");
            x.worth(2, 0, 1);
            x.worth(3, 2, -5);
            x.now(1);
            due("6 is made", x.makes(), 6);
            due("0, 2, 3", x.harmed(), 13);
            x.worth(2, 1, 1);
            due("as much to 2: 0, 3", x.harmed(), 9);
            x.now(6);
            due("as now: nobody", x.harmed(), 0);
            due("the world of nothing: 1, 2 lose b", wish(x, "&-a-b").harmed(), 6);
        });
        reads("GRANTED: what THE SPIRIT makes is NOW.", () -> {
            WishLamp x = three();
            due("a", wish(x, "a").grant(), 3);
            due("now", x.told(2), 3);
            due("not ~b", wish(x, "-~b").grant(), 0);
            due("now", x.told(2), 0);
            due("as it is now", wish(x, "&~a&~b~c").grant(), 0);
            due("granted all the same", x.told(6), 3);
        });
        reads("UNDONE: NOW is as ahead of the latest WISH that was GRANTED and not UNDONE (16 at most are kept; of more the latest ones).", () -> {
            WishLamp x = lamp(5);
            for (int i = 1; i <= 18; i++) wish(x, just(5, i)).grant();
            due("how many", x.told(6), 16);
            due("18th", x.undo(), 17);
            due("17th", x.undo(), 16);
            wish(x, just(5, 30)).grant();
            due("the new one", x.undo(), 16);
            for (int i = 15; i >= 2; i--) due("undo", x.undo(), i);
            due("the first two are not kept", x.undo(), STATE);
            due("now", x.told(2), 2);
        });
    }

    private static void commas() {
        reads("COMMA: SIGNS of the WISH (but letters, 0, 1, ~) that, another one of & | > = ^ (if it has two parts) being put in its place, or "
            + "left out (a -), make what THE SPIRIT makes worth most to THE WISHER (those by which it is VOID do not count):", () -> {
                // both: 3; one: -1; if: -2; both or none: -2; just one: -1
                for (char sign : "&|>=^".toCharArray()) commaIs(three(), sign + "ac", 0, '&', 1003);
                for (String none : new String[] {"a", "~b", "0", "1"}) commaIs(three(), none, NONE, NONE, NONE);
                // without the first -: a, not b: 4
                commaIs(three(), "&-a-b", 1, 0, 1004);
                // with a against the law & and = are void; | > ^ leave b open: -2
                commaIs(law(three(), "-a"), "^a1", 0, '|', 998);
                WishLamp x = three();
                x.set(1, 1);
                // just one: b alone is worth 3, a alone -1; both: 2
                commaIs(x, "^ab", 0, '&', 1002);
                // from 4, where nothing that is not said stirs: c stays
                WishLamp y = three();
                y.set(2, 0);
                y.now(4);
                commaIs(y, "|ab", 0, '&', 1003);
                commaIs(y, "-~a", 0, 0, 1001);
                y.now(1);
                commaIs(y, "-~a", 0, 0, 1004);
                // signs that went are no signs of the wish
                wish(y, "a-");
                commaIs(y, "a", NONE, NONE, NONE);
                // the nearest to 7: without the first - it is 5
                WishLamp z = three();
                z.set(0, 2);
                z.now(7);
                commaIs(z, "&-a-b", 1, 0, 1005);
            });
        reads("the place, and which sign (0: left out);", () -> {
            // both: a, not c: 2; without -: a, c: 3
            commaIs(three(), "&a-c", 2, 0, 1003);
            // a, and if b, not b: 4
            commaIs(three(), "&a|b-b", 2, '>', 1004);
            // if b, not b: not b: 0
            commaIs(three(), "&b-b", 0, '>', 1000);
        });
        reads("of several the first place, then by the order & | > = ^;", () -> {
            WishLamp x = lamp(3);
            commaIs(x, "^a^bc", 0, '&', 1000);
            commaIs(x, "--a", 0, 0, 1000);
            commaIs(x, "^a-a", 0, '|', 1000);
            commaIs(x, "&00", 0, '>', 1000);
            commaIs(law(lamp(3), "^ab"), "=ab", 0, '|', 1000);
            // only just one of them can be against the law that is about c: a 1, b 1, c -9
            WishLamp y = lamp(3);
            y.worth(0, 0, 1);
            y.worth(0, 1, 1);
            y.worth(0, 2, -9);
            commaIs(law(y, "^c^ab"), "=ab", 0, '^', 1001);
            // only both or none: 0 where a, b are bad and not both can be
            WishLamp z = law(lamp(3), "-&ab");
            z.worth(0, 0, -1);
            z.worth(0, 1, -3);
            commaIs(z, "|ab", 0, '=', 1000);
        });
        reads("how much it is then.", () -> {
            commaIs(three(), "|ab", 0, '&', 1002);
            commaIs(three(), "-1", 0, 0, 998);
        });
        reads("(It may be what it is.)", () -> {
            commaIs(three(), "&ac", 0, '&', 1003);
            commaIs(three(), "&a-b", 0, '&', 1004);
        });
    }

    // ---- terms 3: terms, rows, lamps

    private static void terms() {
        passes("======== 3");
        reads("A TERM is a WISH that SAYS of some THINGS that they shall be so, of some that they shall not: told as digits of a number to three, "
            + "THING a's the highest: 0 not SAID, 1 so, 2 not so.", () -> {
                WishLamp x = three();
                int[] numbers = {0, 9, 18, 3, 6, 1, 2, 15, 13, 26};
                int[] made = {2, 3, 2, 2, 0, 6, 2, 1, 7, 0};
                for (int i = 0; i < numbers.length; i++) due("term " + numbers[i], x.term(numbers[i]), made[i]);
                x.set(2, 0);
                x.now(6);
                due("a, not b; c is not said", x.term(15), 5);
                due("nothing is said", x.term(0), 6);
                due("not c; a, b are not said", x.term(2), 2);
                WishLamp y = even(6, 0, 1);
                y.set(2, 1);
                y.now(63);
                for (int t = 0; t < 6; t++) due("it goes, and the highest of the others", y.term(2 * power(5 - t)), t < 5 ? 31 - (1 << t) : 15);
            });
        reads("Its WORDS are how many are SAID.", () -> {
            WishLamp x = three();
            due("nothing", x.wording(-2, 1), 0);
            due("a", x.wording(2, 1), 1);
            due("a, not b", x.wording(4, 1), 2);
            due("a, not b, c", x.wording(5, 1), 3);
        });
        reads("WORDING for a goal (-99 to 99): the TERM of the fewest WORDS (of several the least number) by which what THE SPIRIT makes is worth "
            + "so much at least to THE WISHER; NONE: by none.", () -> {
                WishLamp x = three();
                int[] goals = {-99, -2, -1, 0, 1, 2, 3, 4, 5, 6, 99};
                int[] terms = {0, 0, 1, 6, 9, 9, 10, 15, 16, NONE, NONE};
                for (int i = 0; i < goals.length; i++) due("goal " + goals[i], x.wording(goals[i], 0), terms[i]);
                within(-99, 99, OUTSIDE, v -> x.wording(v, 0));
                x.set(1, 1);
                due("for 1: b", x.wording(2, 0), 3);
                due("for 1: not a, b", x.wording(3, 0), 21);
                x.set(1, 0);
                x.set(2, 0);
                x.now(4);
                due("from 4, where c stays: a", x.wording(5, 0), 9);
                x.now(6);
                due("from 6: a, not b", x.wording(5, 0), 15);
                WishLamp y = even(6, 0, 9);
                due("all six", y.wording(54, 0), 364);
            });
        reads("MOST of w WORDS at most (0 to 6): what is worth most to THE WISHER, and by which TERM (fewest WORDS, then the least number).", () -> {
            WishLamp x = three();
            int[] values = {998, 1002, 1004, 1005, 1005, 1005, 1005};
            int[] terms = {0, 9, 15, 16, 16, 16, 16};
            for (int w = 0; w <= 6; w++) {
                due("worth, " + w, x.most(w, 0), values[w]);
                due("term, " + w, x.most(w, 1), terms[w]);
            }
            within(0, 6, OUTSIDE, v -> x.most(v, 1));
            WishLamp y = even(3, 0, 1);
            due("any one: the least number", y.most(1, 1), 1);
            due("any two", y.most(2, 1), 4);
            x.set(2, 0);
            x.now(6);
            due("from 6: a", x.most(1, 0), 1003);
            due("from 6: a, not b", x.most(2, 0), 1005);
            WishLamp z = even(6, 0, -9);
            due("none of six", z.most(6, 0), 1000);
            due("none of six", z.most(6, 1), 728);
        });
    }

    private static void rows() {
        reads("ROW of k WISHES (1 to 3), each a TERM of w WORDS at most that is not VOID:", () -> {
            WishLamp x = three();
            x.set(2, 0);
            x.now(2);
            rowIs(x, 1, 1, 1002, 9);
            rowIs(x, 2, 1, 1004, 6);
            rowIs(x, 3, 1, 1005, 1);
            rowIs(x, 1, 2, 1004, 15);
            rowIs(x, 1, 3, 1005, 16);
            within(1, 3, OUTSIDE, v -> x.row(v, 1, 0));
            within(0, 6, OUTSIDE, v -> x.row(1, v, 0));
            law(x, "-c");
            rowIs(x, 3, 1, 1004, 0);
            // what is not void must be wished, though now is worth more
            law(x, "b");
            x.now(1);
            rowIs(x, 1, 1, 1002, 3);
        });
        reads("THE WISHER draws up each when the earlier ones have come out;", () -> {
            // one thing goes each time; by wishes that were all drawn up at first two of them would be gone in the end
            WishLamp x = even(3, 0, 1);
            x.now(7);
            x.set(2, 1);
            rowIs(x, 1, 1, 1002, 0);
            rowIs(x, 2, 1, 1002, 0);
            rowIs(x, 3, 1, 1002, 0);
            rowIs(x, 2, 0, 1001, 0);
        });
        reads("THE SPIRIT makes of each what is worst for THE WISHER in the end, both going on so (by no WAY):", () -> {
            // from a to b it must go through both, which is worth more
            WishLamp x = law(lamp(2), "|ab");
            x.worth(0, 0, 2);
            x.worth(0, 1, 1);
            x.taste(0, 9);
            x.set(2, 1);
            x.now(1);
            for (int way = 0; way <= 2; way++) {
                x.set(0, way);
                rowIs(x, 1, 0, 1002, 0);
                rowIs(x, 2, 0, 1001, 0);
            }
        });
        reads("what NOW is worth to THE WISHER in the end; the first TERM (of several that are as good: fewest WORDS, then the least number).", () -> {
            WishLamp x = even(3, 0, 1);
            x.set(2, 0);
            rowIs(x, 1, 1, 1001, 1);
            rowIs(x, 1, 2, 1002, 4);
            rowIs(x, 2, 1, 1002, 1);
            rowIs(x, 2, 2, 1003, 1);
            rowIs(x, 3, 1, 1003, 1);
            rowIs(x, 3, 2, 1003, 0);
            due("now is as it was", x.told(2), 0);
        });
        reads("The TERM of no WORDS is a WISH, too; if all TERMS are VOID, nothing happens.", () -> {
            WishLamp x = three();
            rowIs(x, 1, 0, 998, 0);
            x.set(2, 0);
            x.now(5);
            rowIs(x, 1, 3, 1005, 0);
            law(x, "b");
            rowIs(x, 1, 0, 1005, NONE);
            rowIs(x, 3, 0, 1005, NONE);
            x.now(0);
            rowIs(x, 2, 0, 1000, NONE);
            WishLamp y = even(6, 0, 9);
            rowIs(y, 1, 6, 1054, 364);
            rowIs(y, 3, 6, 1054, 0);
            lampsAre(y, 1, 6, 1000, 0);
            law(x, "0");
            x.now(5);
            for (int k = 1; k <= 3; k++) rowIs(x, k, 6, 1005, NONE);
        });
    }

    private static void twoLamps() {
        reads("LAMPS: as a ROW of two, but a second COUSIN has the second WISH, by which (TERMS, w WORDS) what it is worth to him is most, THE SPIRIT "
            + "then making what is worst for him;", () -> {
                WishLamp x = three();
                // b: 3 and 7 are the worst for him, 3 is less; not a, b: 2 and 6 are as good
                lampsAre(x, 1, 1, 1002, 0);
                lampsAre(x, 1, 2, 998, 0);
                x.set(2, 0);
                // he does b, whatever was wished; with two words he undoes a, too
                lampsAre(x, 1, 1, 1002, 9);
                lampsAre(x, 1, 2, 999, 1);
                within(0, 6, OUTSIDE, v -> x.lamps(1, v, 0));
            });
        reads("of several TERMS by fewest WORDS, then the least number, of several WORLDS the least;", () -> {
            WishLamp x = law(lamp(3), "-&ab");
            x.worth(0, 0, 5);
            x.worth(1, 0, 1);
            x.worth(1, 1, 1);
            x.set(2, 0);
            // a is as good to him as b, not a would be
            lampsAre(x, 1, 2, 1005, 9);
            // b or c, as good to him: c has the least number
            WishLamp y = lamp(3);
            y.worth(1, 1, 1);
            y.worth(1, 2, 1);
            y.worth(0, 2, 2);
            y.worth(0, 1, -2);
            y.set(2, 0);
            lampsAre(y, 1, 1, 1002, 0);
            // all is one to him: the world of nothing, or the least that the law allows
            lampsAre(three(), 2, 3, 1000, 0);
            lampsAre(law(three(), "|bc"), 2, 3, 998, 0);
        });
        reads("of the first WISH THE SPIRIT makes what is worst in the end for THE WISHER: how much it is to THE WISHER then; the first TERM.", () -> {
            // from both it can go on to b alone, which is the worst for 1
            WishLamp x = law(lamp(2), "|ab");
            x.worth(0, 0, 2);
            x.worth(0, 1, 1);
            x.worth(1, 0, 1);
            x.set(2, 1);
            x.now(1);
            lampsAre(x, 1, 0, 1001, 0);
            due("now is as it was", x.told(2), 1);
        });
    }

    // ---- terms 4: cousins, sights, chance

    private static void shares() {
        passes("======== 4");
        reads("SIXTHS of COUSINS (0 to 6 each; 6 of COUSIN 0 at first; all together 6 are told at once).", () -> {
            WishLamp x = new WishLamp();
            for (int c = 0; c < 4; c++) due("at first", x.told(20 + c), c == 0 ? 6 : 0);
            due("at once", x.sixths(0, 3, 1, 2), 1);
            int[] shares = {0, 3, 1, 2};
            for (int c = 0; c < 4; c++) due("then", x.told(20 + c), shares[c]);
            due("five", x.sixths(0, 3, 1, 1), OUTSIDE);
            due("seven of one", x.sixths(7, 0, 0, -1), OUTSIDE);
            due("less than none of a", x.sixths(-1, 5, 2, 0), OUTSIDE);
            due("less than none of b", x.sixths(5, -1, 2, 0), OUTSIDE);
            due("less than none of c", x.sixths(5, 2, -1, 0), OUTSIDE);
            due("less than none of d", x.sixths(5, 2, 0, -1), OUTSIDE);
        });
        reads("VOTES for the WISH on the PAD: SIXTHS of those for whom what THE SPIRIT makes is worth more than NOW.", () -> {
            WishLamp x = wish(three(), "a");
            x.sixths(1, 2, 3, 0);
            due("3 is made", x.makes(), 3);
            due("0, 1", x.votes(), 3);
            x.worth(2, 1, 1);
            x.worth(3, 0, 9);
            due("0, 1, 2, and 3 without a sixth", x.votes(), 6);
            x.now(2);
            due("0 alone gains: 2 has b, 1 loses", x.votes(), 1);
            x.now(3);
            due("as now", x.votes(), 0);
            x.worth(0, 0, -1);
            due("the world of nothing: 0 alone wants neither a nor b", wish(x, "&-a&-b-c").votes(), 1);
        });
        reads("AGREED: the TERM with the most VOTES, of several of which it is worth most to all COUSINS together, then of the fewest WORDS, then the "
            + "least number; its VOTES.", () -> {
                WishLamp x = three();
                x.sixths(3, 3, 0, 0);
                // a, c: 7 is made, 3 and 2; a: 3 is made, 2 and 2
                due("a, c", x.agreed(0), 10);
                due("all votes", x.agreed(1), 6);
                x.worth(3, 2, -1);
                due("now both are worth 4: a", x.agreed(0), 9);
                WishLamp y = three();
                y.sixths(4, 2, 0, 0);
                y.worth(3, 1, 9);
                y.worth(3, 0, -9);
                due("0, 1 gain by 3 and 7: a, c", y.agreed(0), 10);
                y.worth(1, 0, -9);
                due("0 gains by 4, and no more is lost: c, not b; 6 is worth more to all, but 1 alone gains", y.agreed(0), 7);
                due("his votes", y.agreed(1), 4);
                WishLamp z = law(lamp(3), "=ab");
                z.worth(0, 0, 1);
                due("b, ahead of a", z.agreed(0), 3);
                WishLamp u = even(3, 0, -1);
                due("nothing said: no votes, and the worst of all; none of them said: the world of nothing", u.agreed(0), 26);
                due("no votes", u.agreed(1), 0);
                u.set(2, 0);
                due("nothing stirs: nothing said", u.agreed(0), 0);
                u.now(6);
                due("not b, not c", u.agreed(0), 8);
                due("all votes", u.agreed(1), 6);
                due("all six", even(6, 0, 1).agreed(0), 364);
            });
        reads("PAID: the least pence (each of worth one) that those who gain by the WISH must pay in all so that nobody with a SIXTH loses by it; NONE: "
            + "they gain less in all than that (those without a SIXTH neither pay nor are paid).", () -> {
                WishLamp x = wish(three(), "&a-b");
                x.sixths(3, 3, 0, 0);
                due("0 gains 4, 1 loses 1", x.paid(), 1);
                x.worth(1, 0, -4);
                due("1 loses 4", x.paid(), 4);
                x.worth(1, 0, -5);
                due("1 loses 5", x.paid(), NONE);
                x.worth(2, 0, 1);
                due("2 has no sixth", x.paid(), NONE);
                x.sixths(4, 1, 1, 0);
                due("0 and 2 gain 5", x.paid(), 5);
                x.now(1);
                due("the world of nothing: 1 gains 5, 0 loses 4, 2 loses 1", wish(x, "&-a&-b-c").paid(), 5);
                x.now(0);
                wish(x, "&a-b");
                x.sixths(6, 0, 0, 0);
                due("1 has no sixth", x.paid(), 0);
                x.sixths(0, 6, 0, 0);
                due("nobody gains", x.paid(), NONE);
            });
    }

    private static void sights() {
        reads("TASTES: each THING -1, 0 or 1, as digits to three (THING a's the highest: 0, 1, 2 for -1, 0, 1).", () -> {
            WishLamp x = wish(lamp(3), "1");
            due("all of them", x.fit(-1), 27);
            x.picked(1);
            tastesAre(x, 4, 18, 4, 3, 3);
            x.forget();
            x.picked(6);
            tastesAre(x, 2, 8, 3, 4, 4);
            WishLamp y = wish(lamp(6), "1");
            tastesAre(y, 729, 0, 7, 7, 7, 7, 7, 7);
            y.picked(33);
            tastesAre(y, 16, 488, 4, 3, 3, 3, 3, 4);
        });
        reads("PICKED: SIGHTS (6 at most): of the WISH on the PAD, NOW, THE LAW, STILL as they are, THE SPIRIT by its TASTE picked a WORLD.", () -> {
            WishLamp x = law(lamp(3), "a");
            x.now(7);
            x.set(2, 1);
            wish(x, "1");
            // of 3, 5, 7 it took 3: c is not liked, and b not less than c; all is one as to a
            due("picked", x.picked(3), 1);
            tastesAre(x, 15, 0, 7, 7, 3);
            x.now(0);
            x.set(2, 6);
            x.set(0, 2);
            x.taste(2, 9);
            law(x, "1");
            tastesAre(x, 15, 0, 7, 7, 3);
            wish(x, "&&abc");
            for (int i = 2; i <= 6; i++) due("picked", x.picked(7), i);
            due("a seventh", x.picked(7), FULL);
        });
        reads("FIT: TASTES by which all PICKED are so: how many; the least; of a THING which of -1, 0, 1 can be, as bits 0 to 2.", () -> {
            WishLamp x = wish(lamp(3), "^bc");
            // of 2, 3, 4, 5 it took 4: c is liked more than b, a is not liked
            x.picked(4);
            tastesAre(x, 6, 1, 3, 3, 6);
            wish(x, "b").picked(7);
            // but then a is liked
            tastesAre(x, 0, NONE, 0, 0, 0);
            x.forget();
            x.picked(6);
            // c is liked, a is not
            tastesAre(x, 6, 2, 3, 7, 4);
            wish(x, "^bc").picked(4);
            tastesAre(x, 4, 2, 3, 3, 4);
        });
        reads("CAME: SIGHTS (6 at most): from a WORLD to another one by one and the same TERM.", () -> {
            WishLamp x = lamp(3);
            x.set(2, 0);
            due("came", x.came(0, 1), 1);
            lettersAre(x, 4, 9);
            due("came", x.came(6, 5), 2);
            // a, not b: c is 0 in the one and 1 in the other
            lettersAre(x, 1, 15);
            due("came", x.came(7, 7), 3);
            lettersAre(x, 0, NONE);
            wish(x, "1");
            for (int i = 1; i <= 6; i++) due("picked", x.picked(0), i);
            for (int i = 4; i <= 6; i++) due("came", x.came(0, 1), i);
            due("a seventh", x.came(0, 1), FULL);
        });
        reads("LETTERS: TERMS by which (THE SPIRIT's WAY, THE WISHER, THE LAW, STILL as they are) all CAME are so: how many; that of the fewest WORDS, "
            + "the least number.", () -> {
                WishLamp x = three();
                x.came(0, 3);
                lettersAre(x, 4, 9);
                x.set(1, 1);
                lettersAre(x, 4, 3);
                x.set(1, 0);
                x.set(2, 0);
                lettersAre(x, 2, 12);
                x.set(2, 6);
                x.set(0, 2);
                lettersAre(x, 2, 12);
                x.set(0, 1);
                lettersAre(x, 2, 12);
                x.taste(1, 1);
                lettersAre(x, 4, 9);
                x.set(0, 0);
                law(x, "&ab");
                lettersAre(x, 8, 0);
                law(x, "-a");
                lettersAre(x, 0, NONE);
                // nothing came: all terms, though they are void
                x.forget();
                lettersAre(law(x, "0"), 27, 0);
            });
    }

    private static void chance() {
        reads("DRUNK: THE SPIRIT makes each of the WORLDS that KEEP the WISH as likely: that a THING is so; the mean of what it is worth to a COUSIN (and "
            + "1000).", () -> {
                WishLamp x = wish(three(), ">ab");
                for (int way = 0; way <= 2; way++) {
                    x.set(0, way);
                    x.set(1, way);
                    partsAre(x.drunk(0, 0), x.drunk(0, 1), 1, 3);
                    partsAre(x.drunk(1, 0), x.drunk(1, 1), 2, 3);
                    partsAre(x.drunk(2, 0), x.drunk(2, 1), 1, 2);
                    partsAre(x.mean(0, 0), x.mean(0, 1), 2001, 2);
                    partsAre(x.mean(1, 0), x.mean(1, 1), 3005, 3);
                    partsAre(x.mean(2, 0), x.mean(2, 1), 1000, 1);
                }
                x.set(1, 0);
                law(x, "b");
                x.set(2, 0);
                x.now(1);
                wish(x, ">ab");
                partsAre(x.drunk(0, 0), x.drunk(0, 1), 1, 2);
                partsAre(x.drunk(2, 0), x.drunk(2, 1), 0, 1);
            });
        reads("A YEAR by a seed (0 to 9999) of m WISHES (1 to 99), from NOW: x becomes (75 x and 74) left over by 65537: the TERM numbered x left over by "
            + "how many there are: if it is not VOID, THE SPIRIT makes of it what it would: how many were VOID; the WORLD then; how many harmed THE "
            + "WISHER (it was worth less than ahead).", () -> {
                // 74, 5624, 28652, which are 20, 8, 5 of 27: not a, not c; not b, not c; b, not c
                WishLamp x = three();
                int[][] worlds = {{2, 0, 2}, {1, 1, 2}};
                for (int m = 1; m <= 3; m++) {
                    due("void, " + m, x.year(0, m, 0), 0);
                    due("world, " + m, x.year(0, m, 1), worlds[0][m - 1]);
                    due("harmed, " + m, x.year(0, m, 2), worlds[1][m - 1]);
                }
                x.taste(0, 1);
                x.set(0, 1);
                due("by taste", x.year(0, 2, 1), 1);
                due("by taste", x.year(0, 3, 1), 3);
                due("by taste, harmed", x.year(0, 3, 2), 1);
                x.set(0, 0);
                law(x, "-b");
                due("the third is void", x.year(0, 3, 0), 1);
                due("and nothing happens", x.year(0, 3, 1), 0);
                due("nor harms", x.year(0, 3, 2), 0);
                x.set(2, 0);
                x.now(4);
                due("from now", x.year(0, 1, 1), 0);
                due("c goes", x.year(0, 1, 2), 1);
                due("now is as it was", x.told(2), 4);
                law(x, "1");
                x.now(5);
                // from 5 to 0 and not to 1, from 0 to 2 and not to 3
                due("each from where the last one came to", x.year(0, 2, 1), 0);
                due("each from where the last one came to", x.year(0, 3, 1), 2);
                due("twice", x.year(0, 3, 2), 2);
                within(0, 9999, OUTSIDE, v -> x.year(v, 1, 0));
                within(1, 99, OUTSIDE, v -> x.year(0, v, 0));
            });
        passes("Ahead of the calls `things`, `worth`, `taste`, `set`, `now`, `worthOf`, `say`, `wipe`, `fault`, `enact` the interface says: "
            + "---- 1 worlds, clauses.");
        passes("Ahead of the calls `kept`, `makes`, `extreme`, `harmed`, `grant`, `undo`, `comma` the interface says: ---- 2 wishes.");
        passes("Ahead of the calls `term`, `wording`, `most`, `row`, `lamps` the interface says: ---- 3 terms, rows.");
        passes("Ahead of the calls `sixths`, `votes`, `agreed`, `paid`, `picked`, `fit`, `came`, `letters`, `forget`, `drunk`, `mean`, `year`, `image`, "
            + "`restore`, `told` the interface says: ---- 4 cousins, tastes, letters.");
    }

    // ---- promises 1 to 11

    private static void firstPromises() {
        promise(1, "A new object", "WishLamp()");
        reads("Four THINGS, none is so.", () -> {
            WishLamp x = new WishLamp();
            due("four", x.told(1), 4);
            due("none", x.told(2), 0);
            x.set(2, 0);
            keeps(x, "&&~a~b&~c~d", 0);
        });
        promise(2, "things", "int things(int n)");
        reads("How many THINGS: which it was.", () -> {
            WishLamp x = new WishLamp();
            int was = 4;
            for (int n : new int[] {6, 5, 3, 2, 2, 4}) {
                due("things(" + n + ")", x.things(n), was);
                due("told(1)", x.told(1), n);
                was = n;
            }
        });
        reads("All else is as at first (but the PAD, IMAGES).", () -> {
            WishLamp x = full();
            x.image(1);
            wish(x, "|c~d");
            x.things(4);
            due("the pad", x.told(0), 4);
            due("the pad", x.fault(), NONE);
            asAtFirst(x, 4);
            due("the image", x.restore(1), 1);
            due("now in it", x.told(2), 2);
            due("the other one is not there", x.restore(0), STATE);
        });
        reads("OUTSIDE.", () -> within(2, 6, OUTSIDE, v -> new WishLamp().things(v)));
        promise(3, "worth", "int worth(int cousin, int thing, int v)");
        reads("WORTH of a THING to a COUSIN: which it was, and 1000.", () -> {
            WishLamp x = lamp(6);
            due("it was 0", x.worth(2, 5, -7), 1000);
            due("it was -7", x.worth(2, 5, 9), 993);
            due("it was 9", x.worth(2, 5, 9), 1009);
            due("that thing", x.worthOf(2, 32), 1009);
            due("no other thing", x.worthOf(2, 31), 1000);
            due("no other cousin", x.worthOf(3, 63), 1000);
        });
        reads("UNKNOWN; OUTSIDE.", () -> {
            WishLamp x = new WishLamp();
            within(0, 3, UNKNOWN, v -> x.worth(v, 0, 10));
            within(0, 3, UNKNOWN, v -> x.worth(0, v, 10));
            within(-9, 9, OUTSIDE, v -> x.worth(0, 0, v));
        });
        promise(4, "taste", "int taste(int thing, int v)");
        reads("TASTE: which it was, and 1000.", () -> {
            WishLamp x = lamp(6);
            due("it was 0", x.taste(5, -7), 1000);
            due("it was -7", x.taste(5, 9), 993);
            due("it was 9", x.taste(5, 0), 1009);
            due("no other one", x.told(14), 1000);
        });
        reads("UNKNOWN; OUTSIDE.", () -> {
            WishLamp x = new WishLamp();
            within(0, 3, UNKNOWN, v -> x.taste(v, 10));
            within(-9, 9, OUTSIDE, v -> x.taste(0, v));
        });
        promise(5, "set", "int set(int which, int v)");
        reads("WAY (which = 0), THE WISHER (1), STILL (2): which it was.", () -> {
            WishLamp x = new WishLamp();
            due("way", x.set(0, 2), 0);
            due("wisher", x.set(1, 3), 0);
            due("still", x.set(2, 5), 6);
            due("way", x.set(0, 1), 2);
            due("wisher", x.set(1, 2), 3);
            due("still", x.set(2, 4), 5);
            for (int i = 0; i < 3; i++) due("told(" + (3 + i) + ")", x.told(3 + i), new int[] {1, 2, 4}[i]);
        });
        reads("OUTSIDE.", () -> {
            WishLamp x = new WishLamp();
            within(0, 2, OUTSIDE, v -> x.set(v, 0));
            within(0, 2, OUTSIDE, v -> x.set(0, v));
            within(0, 3, OUTSIDE, v -> x.set(1, v));
            within(0, 6, OUTSIDE, v -> x.set(2, v));
        });
        promise(6, "now", "int now(int world)");
        reads("NOW: which it was (nothing is left to be UNDONE).", () -> {
            WishLamp x = three();
            wish(x, "a").grant();
            wish(x, "c").grant();
            due("two", x.told(6), 2);
            due("it was 6", x.now(5), 6);
            due("none", x.told(6), 0);
            due("undo", x.undo(), STATE);
            due("it was 5", x.now(5), 5);
        });
        reads("OUTSIDE.", () -> {
            for (int n = 2; n <= 6; n++) {
                WishLamp x = lamp(n);
                within(0, (1 << n) - 1, OUTSIDE, v -> x.now(v));
            }
        });
    }

    private static void textPromises() {
        promise(7, "worthOf", "int worthOf(int cousin, int world)");
        reads("What a WORLD is worth to a COUSIN, and 1000.", () -> {
            WishLamp x = three();
            int[][] want = {{0, 4, -2, 2, 1, 5, -1, 3}, {0, -1, 3, 2, 0, -1, 3, 2}};
            for (int c = 0; c < 2; c++) {
                for (int w = 0; w < 8; w++) due("worthOf(" + c + ", " + w + ")", x.worthOf(c, w), 1000 + want[c][w]);
            }
        });
        reads("UNKNOWN; OUTSIDE.", () -> {
            WishLamp x = three();
            within(0, 3, UNKNOWN, v -> x.worthOf(v, 8));
            within(0, 7, OUTSIDE, v -> x.worthOf(0, v));
        });
        promise(8, "say", "int say(int sign)");
        reads("A sign more: how many.", () -> {
            WishLamp x = lamp(2);
            due("first", x.say('^'), 1);
            due("second", x.say('a'), 2);
            due("third", x.say('b'), 3);
            due("as many", x.told(0), 3);
            due("in this order", x.kept(0), 1);
            due("in this order", x.kept(1), 2);
        });
        reads("OUTSIDE; FULL.", () -> {
            WishLamp x = new WishLamp();
            within(33, 126, OUTSIDE, v -> x.say(v));
            for (int i = 3; i <= 40; i++) due("say", x.say('a'), i);
            due("full", x.say('a'), FULL);
            due("forty", x.told(0), 40);
        });
        promise(9, "wipe", "int wipe()");
        reads("Signs go: how many there were.", () -> {
            WishLamp x = wish(three(), "|a-b");
            due("four", x.wipe(), 4);
            due("none", x.told(0), 0);
            due("none", x.wipe(), 0);
            x.say('c');
            due("c alone", x.makes(), 6);
        });
        promise(10, "fault", "int fault()");
        reads("THE FAULT; NONE.", () -> {
            WishLamp x = lamp(2);
            faultIs(x, "|a-b", NONE);
            faultIs(x, "|a-c", 3);
            faultIs(x, "|a-", 3);
            faultIs(x, "|a-bb", 4);
        });
        promise(11, "enact", "int enact()");
        reads("The PAD becomes THE LAW (it is empty then; ~ stands for what is so NOW, for good): signs.", () -> {
            WishLamp x = lamp(2);
            x.now(2);
            due("signs", wish(x, "|~a~b").enact(), 5);
            due("empty", x.told(0), 0);
            x.now(1);
            keeps(x, "1", 0, 2, 3);
            due("worlds", x.told(9), 3);
            due("signs", wish(x, "-b").enact(), 2);
            keeps(x, "1", 0, 1);
            // a, as it is now: so it is never, when now has no a, but it was enacted when now had
            law(x, "&a~a");
            due("worlds", x.told(9), 2);
            x.now(0);
            due("for good", x.told(9), 2);
            x.image(0);
            x.restore(0);
            due("for good, in an image, too", x.told(9), 2);
            keeps(x, "1", 1, 3);
            wish(x, "b").grant();
            law(x, "b");
            due("what can be undone stays", x.undo(), 0);
        });
        reads("NO: there is a FAULT.", () -> {
            WishLamp x = law(lamp(2), "a");
            for (String faulty : new String[] {"", "|b", "bb", "c", times(24, "-") + "b"}) {
                due("enact of " + faulty, wish(x, faulty).enact(), NO);
                due("the pad stays", x.told(0), faulty.length());
                due("the law stays", x.told(9), 2);
            }
        });
    }

    // ---- promises 12 to 18

    private static void wishPromises() {
        promise(12, "kept", "int kept(int i)");
        reads("WORLDS that KEEP the WISH: how many (i = -1), the i-th; NONE.", () -> {
            WishLamp x = lamp(3);
            keeps(x, ">a&bc", 0, 2, 4, 6, 7);
            due("beyond", x.kept(6), NONE);
            due("far beyond", x.kept(MAX), NONE);
            due("below", x.kept(-2), NONE);
            due("far below", x.kept(MIN), NONE);
            keeps(x, "0");
        });
        reads("NO: there is a FAULT.", () -> {
            for (int i : new int[] {-2, -1, 0, 9}) due("kept(" + i + ")", wish(three(), "|a").kept(i), NO);
        });
        promise(13, "makes", "int makes()");
        reads("What THE SPIRIT makes of the WISH.", () -> {
            WishLamp x = wish(three(), "^bc");
            due("2, 3, 4, 5 are worth -2, 2, 1, 5", x.makes(), 2);
            x.now(4);
            x.set(0, 2);
            due("as it is now", x.makes(), 4);
            due("now stays", x.told(2), 4);
            due("the pad stays", x.told(0), 3);
        });
        reads("NO: there is a FAULT; STATE: it is VOID.", () -> noAndState(x -> x.makes(), NO, STATE));
        promise(14, "extreme", "int extreme(int cousin, int which, int what)");
        reads("WORST (which = 0), BEST (1): what it is worth, and 1000 (what = 0), the WORLD (1).", () -> {
            WishLamp x = wish(three(), "^bc");
            due("worst, worth", x.extreme(0, 0, 0), 998);
            due("worst, world", x.extreme(0, 0, 1), 2);
            due("best, worth", x.extreme(0, 1, 0), 1005);
            due("best, world", x.extreme(0, 1, 1), 5);
            due("worst for 1, worth", x.extreme(1, 0, 0), 999);
            due("worst for 1, world", x.extreme(1, 0, 1), 5);
        });
        reads("UNKNOWN; OUTSIDE; NO, STATE, likewise.", () -> {
            WishLamp x = wish(three(), "a");
            within(0, 3, UNKNOWN, v -> x.extreme(v, 0, 0));
            due("UNKNOWN first", x.extreme(4, 2, 2), UNKNOWN);
            within(0, 1, OUTSIDE, v -> x.extreme(0, v, 0));
            within(0, 1, OUTSIDE, v -> x.extreme(0, 0, v));
            noAndState(y -> y.extreme(3, 1, 1), NO, STATE);
        });
        promise(15, "harmed", "int harmed()");
        reads("HARMED, as bits.", () -> {
            WishLamp x = wish(three(), "&a-b");
            due("1", x.harmed(), 2);
            x.worth(3, 0, -1);
            due("1, 3", x.harmed(), 10);
            x.now(5);
            due("0 loses c", x.harmed(), 1);
        });
        reads("NO, STATE, likewise.", () -> noAndState(x -> x.harmed(), NO, STATE));
        promise(16, "grant", "int grant()");
        reads("GRANTED (the PAD is empty then): the WORLD.", () -> {
            WishLamp x = wish(three(), "&a-b");
            due("the world", x.grant(), 1);
            due("now", x.told(2), 1);
            due("empty", x.told(0), 0);
            due("once", x.told(6), 1);
        });
        reads("NO, STATE, likewise.", () -> {
            noAndState(x -> x.grant(), NO, STATE);
            WishLamp x = wish(three(), "0");
            x.grant();
            due("the pad stays", x.told(0), 1);
            due("nothing to be undone", x.told(6), 0);
        });
        promise(17, "undo", "int undo()");
        reads("UNDONE: the WORLD.", () -> {
            WishLamp x = three();
            x.now(6);
            wish(x, "a").grant();
            wish(x, "-a").grant();
            wish(x, "|a");
            due("the world", x.undo(), 3);
            due("now", x.told(2), 3);
            due("the world", x.undo(), 6);
            due("now", x.told(2), 6);
            due("the pad stays", x.told(0), 2);
        });
        reads("STATE: there is nothing.", () -> {
            WishLamp x = three();
            due("at first", x.undo(), STATE);
            wish(x, "a").grant();
            x.undo();
            due("then", x.undo(), STATE);
        });
        promise(18, "comma", "int comma(int what)");
        reads("COMMA: the place (what = 0), the sign's code (1), what it is worth, and 1000 (2); NONE: there is no such sign, or all are VOID then.", () -> {
            commaIs(three(), "|ac", 0, 38, 1003);
            commaIs(three(), "&a-c", 2, 0, 1003);
            commaIs(three(), "~c", NONE, NONE, NONE);
            commaIs(three(), "-0", NONE, NONE, NONE);
            commaIs(law(three(), "0"), "|a-b", NONE, NONE, NONE);
        });
        reads("OUTSIDE; NO: there is a FAULT.", () -> {
            WishLamp x = wish(three(), "|ac");
            within(0, 2, OUTSIDE, v -> x.comma(v));
            for (int what = 0; what <= 2; what++) due("comma(" + what + ")", wish(x, "|a").comma(what), NO);
            due("OUTSIDE first", x.comma(3), OUTSIDE);
        });
    }

    // ---- promises 19 to 23

    private static void termPromises() {
        promise(19, "term", "int term(int number)");
        reads("What THE SPIRIT makes of a TERM.", () -> {
            WishLamp x = three();
            due("not b", x.term(6), 0);
            x.set(0, 2);
            x.now(3);
            due("not b, the nearest", x.term(6), 1);
            due("now stays", x.told(2), 3);
        });
        reads("OUTSIDE: the number; STATE: it is VOID.", () -> {
            for (int n = 2; n <= 6; n++) {
                WishLamp x = lamp(n);
                within(0, power(n) - 1, OUTSIDE, v -> x.term(v));
            }
            WishLamp y = law(three(), "-a");
            due("a", y.term(9), STATE);
            due("not a", y.term(18), 2);
            due("OUTSIDE first", law(y, "0").term(27), OUTSIDE);
        });
        promise(20, "wording", "int wording(int goal, int what)");
        reads("WORDING: the TERM (what = 0), its WORDS (1); NONE.", () -> {
            WishLamp x = three();
            due("the term", x.wording(3, 0), 10);
            due("its words", x.wording(3, 1), 2);
            due("none", x.wording(6, 0), NONE);
            due("none", x.wording(6, 1), NONE);
        });
        reads("OUTSIDE.", () -> {
            WishLamp x = three();
            within(-99, 99, OUTSIDE, v -> x.wording(v, 1));
            within(0, 1, OUTSIDE, v -> x.wording(0, v));
        });
        promise(21, "most", "int most(int words, int what)");
        reads("MOST: what it is worth, and 1000 (what = 0), the TERM (1); NONE: all are VOID.", () -> {
            WishLamp x = three();
            due("worth", x.most(2, 0), 1004);
            due("the term", x.most(2, 1), 15);
            law(x, "b");
            x.set(2, 0);
            due("all of no words", x.most(0, 0), NONE);
            due("all of no words", x.most(0, 1), NONE);
            due("b", x.most(1, 1), 3);
            due("b", x.most(1, 0), 998);
        });
        reads("OUTSIDE.", () -> {
            WishLamp x = three();
            within(0, 6, OUTSIDE, v -> x.most(v, 0));
            within(0, 1, OUTSIDE, v -> x.most(0, v));
        });
        promise(22, "row", "int row(int k, int words, int what)");
        reads("ROW: what it is worth, and 1000 (what = 0), the first TERM (1; NONE: all are VOID).", () -> {
            WishLamp x = three();
            rowIs(x, 1, 2, 1004, 15);
            rowIs(x, 2, 2, 1004, 0);
            law(x, "0");
            x.now(6);
            rowIs(x, 2, 2, 999, NONE);
        });
        reads("OUTSIDE.", () -> {
            WishLamp x = three();
            within(1, 3, OUTSIDE, v -> x.row(v, 0, 0));
            within(0, 6, OUTSIDE, v -> x.row(1, v, 1));
            within(0, 1, OUTSIDE, v -> x.row(1, 0, v));
        });
        promise(23, "lamps", "int lamps(int cousin, int words, int what)");
        reads("LAMPS, likewise.", () -> {
            WishLamp x = three();
            x.set(2, 0);
            lampsAre(x, 1, 1, 1002, 9);
            lampsAre(x, 2, 1, 1004, 9);
            law(x, "0");
            x.now(6);
            lampsAre(x, 1, 1, 999, NONE);
        });
        reads("UNKNOWN: the second COUSIN, also THE WISHER; OUTSIDE.", () -> {
            WishLamp x = three();
            within(1, 3, UNKNOWN, v -> x.lamps(v, 7, 2));
            x.set(1, 2);
            due("the wisher", x.lamps(2, 0, 0), UNKNOWN);
            due("the one who was", x.lamps(0, 0, 0), 1000);
            within(0, 6, OUTSIDE, v -> x.lamps(0, v, 0));
            within(0, 1, OUTSIDE, v -> x.lamps(0, 0, v));
        });
    }

    // ---- promises 24 to 38

    private static void sharePromises() {
        promise(24, "sixths", "int sixths(int a, int b, int c, int d)");
        reads("SIXTHS of all four: 1.", () -> {
            WishLamp x = new WishLamp();
            due("sixths", x.sixths(1, 1, 1, 3), 1);
            for (int c = 0; c < 4; c++) due("told", x.told(20 + c), c == 3 ? 3 : 1);
        });
        reads("OUTSIDE: each 0 to 6, all together 6.", () -> {
            WishLamp x = new WishLamp();
            within(0, 6, OUTSIDE, v -> x.sixths(v, 6 - v, 0, 0));
            within(0, 6, OUTSIDE, v -> x.sixths(0, v, 6 - v, 0));
            within(0, 6, OUTSIDE, v -> x.sixths(0, 0, v, 6 - v));
            within(0, 6, OUTSIDE, v -> x.sixths(6 - v, 0, 0, v));
            due("five", x.sixths(1, 1, 1, 2), OUTSIDE);
            due("seven", x.sixths(1, 1, 1, 4), OUTSIDE);
        });
        promise(25, "votes", "int votes()");
        reads("VOTES.", () -> {
            WishLamp x = wish(three(), "&a-b");
            x.sixths(2, 4, 0, 0);
            due("0", x.votes(), 2);
            x.now(5);
            due("nobody", x.votes(), 0);
        });
        reads("NO, STATE, as of makes().", () -> noAndState(x -> x.votes(), NO, STATE));
        promise(26, "agreed", "int agreed(int what)");
        reads("AGREED: the TERM (what = 0), its VOTES (1); NONE: all are VOID.", () -> {
            WishLamp x = three();
            x.sixths(1, 2, 3, 0);
            due("a, c", x.agreed(0), 10);
            due("0, 1", x.agreed(1), 3);
            law(x, "0");
            due("none", x.agreed(0), NONE);
            due("none", x.agreed(1), NONE);
        });
        reads("OUTSIDE.", () -> {
            WishLamp x = three();
            within(0, 1, OUTSIDE, v -> x.agreed(v));
        });
        promise(27, "paid", "int paid()");
        reads("PAID; NONE.", () -> {
            WishLamp x = wish(three(), "&-ab");
            x.sixths(3, 3, 0, 0);
            due("0 loses 2, 1 gains 3", x.paid(), 2);
            x.now(1);
            due("0 loses 6, 1 gains 4", x.paid(), NONE);
        });
        reads("NO, STATE, as of makes().", () -> noAndState(x -> x.paid(), NO, STATE));
    }

    private static void sightPromises() {
        promise(28, "picked", "int picked(int world)");
        reads("PICKED: a SIGHT more: how many.", () -> {
            WishLamp x = wish(lamp(3), "a");
            for (int i = 1; i <= 6; i++) due("picked", x.picked(5), i);
            due("as many", x.told(7), 6);
        });
        reads("OUTSIDE: the WORLD; NO: there is a FAULT, or the WORLD does not KEEP the WISH; FULL.", () -> {
            WishLamp x = wish(lamp(3), "1");
            within(0, 7, OUTSIDE, v -> x.picked(v));
            due("fault", wish(x, "|").picked(0), NO);
            due("a 25th sign", wish(x, times(24, "-") + "a").picked(1), NO);
            due("does not keep it", wish(x, "a").picked(0), NO);
            due("void", wish(x, "0").picked(0), NO);
            wish(x, "a");
            for (int i = 3; i <= 6; i++) due("picked", x.picked(1), i);
            due("full", x.picked(1), FULL);
            due("NO first", x.picked(0), NO);
        });
        promise(29, "fit", "int fit(int thing)");
        reads("FIT: how many (thing = -1), the least (-2; NONE), which can be of a THING, as bits.", () -> {
            WishLamp x = wish(lamp(3), "|ab");
            // of 1, 2, 3, 5, 6, 7 it took 2: b is liked more than a, a is not liked, nor c
            x.picked(2);
            tastesAre(x, 6, 3, 3, 6, 3);
            // 1 then: never both
            x.picked(1);
            tastesAre(x, 0, NONE, 0, 0, 0);
        });
        reads("UNKNOWN.", () -> {
            for (int n = 2; n <= 6; n++) {
                WishLamp x = lamp(n);
                within(-2, n - 1, UNKNOWN, v -> x.fit(v));
            }
        });
        promise(30, "came", "int came(int from, int to)");
        reads("CAME: a SIGHT more: how many.", () -> {
            WishLamp x = lamp(3);
            for (int i = 1; i <= 6; i++) due("came", x.came(7 - i, i), i);
            due("as many", x.told(8), 6);
        });
        reads("OUTSIDE: WORLDS; FULL.", () -> {
            WishLamp x = lamp(3);
            within(0, 7, OUTSIDE, v -> x.came(v, 0));
            within(0, 7, OUTSIDE, v -> x.came(0, v));
            due("fifth", x.came(1, 1), 5);
            due("sixth", x.came(1, 1), 6);
            due("full", x.came(1, 1), FULL);
            due("OUTSIDE first", x.came(8, 1), OUTSIDE);
        });
        promise(31, "letters", "int letters(int what)");
        reads("LETTERS: how many (what = 0), the TERM (1; NONE).", () -> {
            WishLamp x = three();
            lettersAre(x, 27, 0);
            x.came(5, 2);
            // nothing; of a and c not so or nothing, of b so or nothing: 2 is the worst of all
            lettersAre(x, 8, 0);
            x.came(5, 3);
            lettersAre(x, 0, NONE);
        });
        reads("OUTSIDE.", () -> {
            WishLamp x = three();
            within(0, 1, OUTSIDE, v -> x.letters(v));
        });
        promise(32, "forget", "int forget()");
        reads("SIGHTS of both kinds go: how many there were.", () -> {
            WishLamp x = wish(lamp(3), "1");
            x.picked(7);
            x.came(0, 1);
            x.came(0, 2);
            due("three", x.forget(), 3);
            due("picked", x.told(7), 0);
            due("came", x.told(8), 0);
            tastesAre(x, 27, 0, 7, 7, 7);
            lettersAre(x, 27, 0);
            due("none", x.forget(), 0);
        });
    }

    private static void chancePromises() {
        promise(33, "drunk", "long drunk(int thing, int part)");
        reads("DRUNK: that a THING is so.", () -> {
            WishLamp x = wish(lamp(3), "|a&bc");
            // 1, 3, 5, 6, 7
            partsAre(x.drunk(0, 0), x.drunk(0, 1), 4, 5);
            partsAre(x.drunk(2, 0), x.drunk(2, 1), 3, 5);
            wish(x, "&a-b");
            partsAre(x.drunk(0, 0), x.drunk(0, 1), 1, 1);
            partsAre(x.drunk(1, 0), x.drunk(1, 1), 0, 1);
        });
        reads("UNKNOWN; OUTSIDE; NO, STATE, as of makes().", () -> {
            WishLamp x = wish(lamp(3), "a");
            within(0, 2, LOST + UNKNOWN, v -> x.drunk(v, 2));
            within(0, 1, LOST + OUTSIDE, v -> x.drunk(0, v));
            noAndState(y -> y.drunk(2, 1), LOST + NO, LOST + STATE);
        });
        promise(34, "mean", "long mean(int cousin, int part)");
        reads("DRUNK: the mean.", () -> {
            WishLamp x = wish(three(), "|a&bc");
            // 4, 2, 5, -1, 3 are 13 of 5; -1, 2, -1, 3, 2 are 5 of 5
            partsAre(x.mean(0, 0), x.mean(0, 1), 5013, 5);
            partsAre(x.mean(1, 0), x.mean(1, 1), 1001, 1);
            partsAre(x.mean(3, 0), x.mean(3, 1), 1000, 1);
        });
        reads("UNKNOWN; OUTSIDE; NO, STATE, likewise.", () -> {
            WishLamp x = wish(three(), "a");
            within(0, 3, LOST + UNKNOWN, v -> x.mean(v, 2));
            within(0, 1, LOST + OUTSIDE, v -> x.mean(0, v));
            noAndState(y -> y.mean(3, 0), LOST + NO, LOST + STATE);
        });
        promise(35, "year", "int year(int seed, int m, int what)");
        reads("A YEAR: VOID ones (what = 0), the WORLD (1), how many harmed (2).", () -> {
            WishLamp x = law(three(), "b");
            // 20, 8, 5: not a, not c; not b, not c, which is void; b, not c
            due("void", x.year(0, 3, 0), 1);
            due("world", x.year(0, 3, 1), 2);
            due("harmed", x.year(0, 3, 2), 1);
        });
        reads("OUTSIDE.", () -> {
            WishLamp x = three();
            within(0, 9999, OUTSIDE, v -> x.year(v, 99, 2));
            within(1, 99, OUTSIDE, v -> x.year(9999, v, 2));
            within(0, 2, OUTSIDE, v -> x.year(0, 1, v));
        });
    }

    private static void imagePromises() {
        promise(36, "image", "int image(int n)");
        reads("All but the PAD is kept in an IMAGE (0, 1): 1.", () -> {
            WishLamp x = full();
            int[] kept = allTold(x);
            due("image(1)", x.image(1), 1);
            x.now(9);
            due("image(0)", x.image(0), 1);
            wish(x, "!!!!!!");
            x.restore(1);
            due("the pad is as it is", x.told(0), 6);
            for (int i = 1; i < 70; i++) due("told(" + i + ")", x.told(i), kept[i]);
            due("what can be undone", x.undo(), 0);
            x.restore(0);
            due("the other one", x.told(2), 9);
        });
        reads("OUTSIDE.", () -> {
            WishLamp x = three();
            within(0, 1, OUTSIDE, v -> x.image(v));
        });
        promise(37, "restore", "int restore(int n)");
        reads("It is as it was when it was kept: 1.", () -> {
            WishLamp x = full();
            int[] before = allTold(x);
            int[] more = {x.fit(-1), x.fit(-2), x.letters(0), x.letters(1), x.makes(), x.year(7, 30, 1)};
            x.image(0);
            x.things(6);
            due("restore", x.restore(0), 1);
            for (int i = 0; i < 70; i++) due("told(" + i + ")", x.told(i), before[i]);
            int[] again = {x.fit(-1), x.fit(-2), x.letters(0), x.letters(1), x.makes(), x.year(7, 30, 1)};
            for (int i = 0; i < more.length; i++) due("answer " + i, again[i], more[i]);
            due("undo", x.undo(), 0);
            x.worth(0, 0, 9);
            x.taste(0, 9);
            x.sixths(0, 0, 0, 6);
            x.forget();
            x.came(9, 9);
            x.now(7);
            wish(x, "a").grant();
            law(x, "0");
            due("once more", x.restore(0), 1);
            for (int i = 1; i < 70; i++) due("told(" + i + ")", x.told(i), before[i]);
            due("from where to where it came", x.letters(0), more[2]);
            due("from where to where it came", x.letters(1), more[3]);
            due("undo", x.undo(), 0);
        });
        reads("OUTSIDE; STATE: it was not.", () -> {
            WishLamp x = three();
            due("0", x.restore(0), STATE);
            due("1", x.restore(1), STATE);
            within(0, 1, OUTSIDE, v -> x.restore(v));
            x.image(1);
            due("0 still", x.restore(0), STATE);
            due("1", x.restore(1), 1);
        });
        promise(38, "told", "int told(int what)");
        reads("0 signs, 1 THINGS, 2 NOW, 3 WAY, 4 THE WISHER, 5 STILL, 6 how many can be UNDONE, 7 PICKED, 8 CAME, 9 how many WORLDS keep THE LAW, 10 on "
            + "TASTES and 1000, 20 on SIXTHS, 30 to 69: 10 times (3 and a COUSIN) and a THING: its WORTH and 1000.", () -> {
                WishLamp x = law(three(), "|ac");
                for (int t = 0; t < 3; t++) x.taste(t, 5 - t);
                x.set(0, 1);
                x.set(1, 2);
                x.set(2, 5);
                x.sixths(0, 1, 2, 3);
                wish(x, "-b").grant();
                wish(x, "1").grant();
                x.undo();
                wish(x, "&~a~b");
                x.picked(5);
                x.picked(1);
                x.picked(1);
                x.came(0, 1);
                x.came(0, 1);
                int[] want = {5, 3, 5, 1, 2, 5, 1, 3, 2, 6, 1005, 1004, 1003};
                for (int i = 0; i < want.length; i++) due("told(" + i + ")", x.told(i), want[i]);
                for (int c = 0; c < 4; c++) due("told(" + (20 + c) + ")", x.told(20 + c), c);
                int[] worths = {1004, 998, 1001, 999, 1003, 1000, 1000, 1000, 1000, 1000, 1000, 1000};
                for (int i = 0; i < 12; i++) due("worth", x.told(30 + i / 3 * 10 + i % 3), worths[i]);
            });
        reads("OUTSIDE (also of THINGS that there are not).", () -> {
            for (int n = 2; n <= 6; n++) {
                WishLamp x = lamp(n);
                within(0, 60 + n - 1, OUTSIDE, v -> x.told(v));
                for (int ten : new int[] {10, 30, 40, 50, 60}) {
                    due("the last thing", x.told(ten + n - 1), 1000);
                    for (int t = n; t < 10; t++) due("told(" + (ten + t) + ")", x.told(ten + t), OUTSIDE);
                }
                for (int c = 4; c < 10; c++) due("told(" + (20 + c) + ")", x.told(20 + c), OUTSIDE);
            }
        });
        passes("## Not promised How the state is held inside the object is free, as are the speed of each call, the text of toString and the behaviour of "
            + "equals and hashCode. Use of one object from several threads at once is not promised to be safe. Nothing is promised beyond the answers and "
            + "state changes described above, and nothing about an object after its 512th call.");
    }

    public static void main(String[] args) throws IOException {
        // Lines of three ticks are no words; all white space is as one blank.
        document = Files.readString(Path.of("../shared/DOC.md")).replaceAll("(?m)^```.*$", " ").replaceAll("\\s+", " ").trim();
        whatItIs();
        refusals();
        things();
        signs();
        keeping();
        spirit();
        commas();
        terms();
        rows();
        twoLamps();
        shares();
        sights();
        chance();
        firstPromises();
        textPromises();
        wishPromises();
        termPromises();
        sharePromises();
        sightPromises();
        chancePromises();
        imagePromises();
        test("the document ends here", () -> due("signs that are left", document.length() - at, 0));
        end();
    }
}
