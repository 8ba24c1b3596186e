/** Boundary cases of wishes: the terms of part 2, promises 12 to 18. */
public final class BoundaryWishesTest extends Boundary {
    private static final String[] FAULTY = {"", "&", "&a", "~", "ab", "e", "!", times(24, "-"), times(24, "-") + "a", times(40, "a")};

    interface Ask {
        long of(WishLamp x);
    }

    /** NO for each fault, also where the wish would be void, too; the pad stays. */
    private static void saysNo(Ask ask) {
        for (String text : FAULTY) {
            WishLamp x = wish(cousins(), text);
            due("of " + text, ask.of(x), NO);
            due("the pad stays", x.told(0), text.length());
            law(x, "0");
            wish(x, text);
            due("NO ahead of STATE, of " + text, ask.of(x), NO);
        }
    }

    /** STATE where the wish is void: by its words, by the law, by what must be still. */
    private static void saysState(Ask ask) {
        WishLamp x = wish(cousins(), "0");
        due("never", ask.of(x), STATE);
        due("the pad stays", x.told(0), 1);
        due("not and so", ask.of(wish(x, "&a-a")), STATE);
        law(x, "-a");
        due("against the law", ask.of(wish(x, "a")), STATE);
        due("with the law", ask.of(wish(x, "-a")) == STATE ? 1 : 0, 0);
        law(x, "&ab");
        x.set(2, 1);
        due("two would have to stir", ask.of(wish(x, "1")), STATE);
        x.set(2, 2);
        due("two may stir", ask.of(x) == STATE ? 1 : 0, 0);
        x.set(2, 0);
        due("one is not said", ask.of(wish(x, "a")), STATE);
        due("both are said", ask.of(wish(x, "&ab")) == STATE ? 1 : 0, 0);
    }

    // ---- promise 12: kept

    private static void promise12() {
        test("12: NO: there is a FAULT, whichever is asked for", () -> {
            for (int i : new int[] {-1, 0, 3, 99, -2, MIN, MAX}) saysNo(x -> x.kept(i));
        });
        test("12: how many, the i-th, of a VOID one", () -> {
            WishLamp x = wish(new WishLamp(), "0");
            due("how many", x.kept(-1), 0);
            due("the first", x.kept(0), NONE);
            due("the next", x.kept(1), NONE);
        });
        test("12: how many, the i-th, of just one", () -> {
            WishLamp x = wish(new WishLamp(), "&&ab&cd");
            due("how many", x.kept(-1), 1);
            due("the first", x.kept(0), 15);
            due("no other", x.kept(1), NONE);
        });
        test("12: the i-th, up to the last; NONE beyond", () -> {
            for (int n = 2; n <= 6; n++) {
                WishLamp x = wish(lamp(n), "1");
                int all = 1 << n;
                due("how many", x.kept(-1), all);
                for (int i = 0; i < all; i++) due("kept(" + i + ")", x.kept(i), i);
                due("beyond", x.kept(all), NONE);
                due("64", x.kept(64), NONE);
                for (int v : FAR_OFF) due("far off", x.kept(v), NONE);
            }
        });
        test("12: NONE below -1", () -> {
            WishLamp x = wish(new WishLamp(), "a");
            due("-2", x.kept(-2), NONE);
            due("-8", x.kept(-8), NONE);
        });
        int[] stirs = {1, 7, 22, 42, 57, 63, 64};
        int[] others = {1, 6, 16, 26, 31, 32, 32};
        test("STILL: so many THINGS at most, 0 to 6", () -> {
            for (int now : new int[] {0, 63, 21}) {
                WishLamp x = wish(lamp(6), "1");
                x.now(now);
                for (int still = 0; still <= 6; still++) {
                    x.set(2, still);
                    due("from " + now + ", " + still, x.kept(-1), stirs[still]);
                }
            }
        });
        test("STILL: of those that are not SAID", () -> {
            for (int now : new int[] {0, 63, 21}) {
                WishLamp x = wish(lamp(6), "c");
                x.now(now);
                for (int still = 0; still <= 6; still++) {
                    x.set(2, still);
                    due("from " + now + ", " + still, x.kept(-1), others[still]);
                }
            }
        });
        test("STILL 0: all else is as NOW", () -> {
            WishLamp x = wish(lamp(6), "-c");
            x.set(2, 0);
            x.now(63);
            due("all but c", x.kept(0), 59);
            due("no other", x.kept(1), NONE);
        });
        test("STILL 0, all SAID: all is open", () -> {
            WishLamp x = wish(lamp(6), "|a|b|c|d|e|f1");
            x.set(2, 0);
            due("all", x.kept(-1), 64);
            due("a and b alone", wish(x, "|a|b1").kept(-1), 4);
        });
        test("It SAYS the THINGS whose letters are in it, behind ~, too", () -> {
            WishLamp x = wish(new WishLamp(), "~a");
            x.set(2, 0);
            due("as now", x.kept(-1), 1);
            due("otherwise", wish(x, "-~a").kept(0), 1);
            due("either", wish(x, "|~a-~a").kept(-1), 2);
            due("not a word of a", wish(x, "1").kept(-1), 1);
        });
        test("0 (never), 1 (always) SAY nothing", () -> {
            WishLamp x = new WishLamp();
            x.set(2, 0);
            x.now(10);
            due("as now", wish(x, "1").kept(0), 10);
            due("that alone", x.kept(1), NONE);
            due("none", wish(x, "0").kept(-1), 0);
        });
        test("it keeps THE LAW, too", () -> {
            WishLamp x = law(new WishLamp(), "-&ab");
            due("all of the law", wish(x, "1").kept(-1), 12);
            due("a", wish(x, "a").kept(-1), 4);
            due("both", wish(x, "&ab").kept(-1), 0);
        });
        test("what THE LAW says is not SAID by the WISH", () -> {
            WishLamp x = law(new WishLamp(), "a");
            x.set(2, 0);
            due("a may not stir", wish(x, "1").kept(-1), 0);
            due("b alone may", wish(x, "b").kept(-1), 0);
            due("a is said", wish(x, "a").kept(0), 1);
        });
        joints();
    }

    private static void joints() {
        String[] texts = {"-a", "&ab", "|ab", ">ab", "=ab", "^ab", ">ba", "0", "1", "a", "b"};
        int[][] want = {{0, 2}, {3}, {1, 2, 3}, {0, 2, 3}, {0, 3}, {1, 2}, {0, 1, 3}, {}, {0, 1, 2, 3}, {1, 3}, {2, 3}};
        for (int i = 0; i < texts.length; i++) {
            String text = texts[i];
            int[] worlds = want[i];
            test("a CLAUSE: " + text, () -> {
                WishLamp x = wish(lamp(2), text);
                due("how many", x.kept(-1), worlds.length);
                for (int k = 0; k < worlds.length; k++) due("kept(" + k + ")", x.kept(k), worlds[k]);
                due("beyond", x.kept(worlds.length), NONE);
            });
        }
        test("~ and a letter: as it is NOW, so or not", () -> {
            WishLamp x = wish(lamp(2), "~b");
            due("not so", x.kept(1), 1);
            x.now(2);
            due("so", x.kept(0), 2);
            due("so", x.kept(1), 3);
        });
        test("a CLAUSE of 24 signs is read to its last sign", () -> {
            due("b", wish(lamp(2), times(11, "&a") + "-b").kept(0), 1);
            due("b", wish(lamp(2), times(11, "&a") + "-b").kept(-1), 1);
            due("13 parts", wish(lamp(2), times(11, "|") + times(11, "a") + "b").kept(-1), 3);
            due("23 times not", wish(lamp(2), times(23, "-") + "b").kept(1), 1);
        });
    }

    // ---- promise 13: makes

    private static void promise13() {
        test("13: NO: there is a FAULT", () -> saysNo(x -> x.makes()));
        test("13: STATE: it is VOID", () -> saysState(x -> x.makes()));
        test("WAY 0: of several the least as bits", () -> {
            WishLamp x = new WishLamp();
            due("all are worth the same", wish(x, "|bd").makes(), 2);
            x.worth(0, 0, -1);
            due("a, and the least of them", x.makes(), 3);
            due("the world of nothing", wish(x, "-a").makes(), 0);
        });
        test("WAY 0: one worth less is taken ahead of a lesser one", () -> {
            WishLamp x = even(6, 0, -9);
            due("the last of all", wish(x, "1").makes(), 63);
            x.worth(0, 5, 1);
            due("but f", x.makes(), 31);
            x.worth(0, 5, 0);
            due("f is all one", x.makes(), 31);
        });
        test("WAY 1: of several the least as bits", () -> {
            WishLamp x = even(4, 0, -9);
            x.set(0, 1);
            due("all taste the same", wish(x, "|bd").makes(), 2);
            x.taste(0, 1);
            x.taste(1, 1);
            due("a or b", wish(x, "^ab").makes(), 1);
            x.taste(1, 2);
            due("b", x.makes(), 2);
            x.taste(0, -9);
            x.taste(1, -9);
            due("the least bad", x.makes(), 1);
        });
        test("WAY 1: the greatest TASTE of six", () -> {
            WishLamp x = wish(lamp(6), "1");
            x.set(0, 1);
            for (int t = 0; t < 6; t++) x.taste(t, 9);
            due("all", x.makes(), 63);
            for (int t = 0; t < 6; t++) x.taste(t, -9);
            due("none", x.makes(), 0);
        });
        test("WAY 2: the fewest otherwise, though others are worth less by far", () -> {
            WishLamp x = even(6, 0, -9);
            x.set(0, 2);
            due("f alone", wish(x, "f").makes(), 32);
            x.now(63);
            for (int t = 0; t < 6; t++) x.worth(0, t, 9);
            due("all but f", wish(x, "-f").makes(), 31);
        });
        test("WAY 2: NOW, if it KEEPS the WISH", () -> {
            WishLamp x = even(4, 0, -9);
            x.set(0, 2);
            x.now(5);
            due("now", wish(x, "a").makes(), 5);
            due("now", wish(x, "1").makes(), 5);
        });
        test("WAY 2: of these of the least WORTH, of several the least as bits", () -> {
            WishLamp x = new WishLamp();
            x.set(0, 2);
            x.now(6);
            wish(x, "^bc");
            due("worth the same", x.makes(), 2);
            x.worth(0, 1, 1);
            due("c is worth less", x.makes(), 4);
            x.worth(0, 2, 1);
            due("worth the same again", x.makes(), 2);
        });
        test("by its WAY for THE WISHER, not for another one", () -> {
            WishLamp x = new WishLamp();
            for (int c = 0; c < 4; c++) x.worth(c, c, -1);
            wish(x, "1");
            for (int c = 0; c < 4; c++) {
                x.set(1, c);
                due("wisher " + c, x.makes(), 1 << c);
            }
        });
    }

    // ---- promise 14: extreme

    private static void promise14() {
        test("14: COUSINS 0 to 3", () -> {
            WishLamp x = wish(even(4, 3, 1), "1");
            due("0", x.extreme(0, 1, 0), 1000);
            due("3", x.extreme(3, 1, 0), 1004);
            due("-1", x.extreme(-1, 0, 0), UNKNOWN);
            due("4", x.extreme(4, 0, 0), UNKNOWN);
            for (int v : FAR_OFF) due("far off", x.extreme(v, 0, 0), UNKNOWN);
        });
        test("14: which 0, 1", () -> {
            WishLamp x = wish(new WishLamp(), "1");
            due("-1", x.extreme(0, -1, 0), OUTSIDE);
            due("2", x.extreme(0, 2, 0), OUTSIDE);
            for (int v : FAR_OFF) due("far off", x.extreme(0, v, 1), OUTSIDE);
        });
        test("14: what 0, 1", () -> {
            WishLamp x = wish(new WishLamp(), "1");
            due("-1", x.extreme(0, 0, -1), OUTSIDE);
            due("2", x.extreme(0, 1, 2), OUTSIDE);
            for (int v : FAR_OFF) due("far off", x.extreme(0, 1, v), OUTSIDE);
        });
        test("14: NO", () -> {
            for (int i = 0; i < 4; i++) {
                int k = i;
                saysNo(x -> x.extreme(3, k / 2, k % 2));
            }
        });
        test("14: STATE", () -> {
            for (int i = 0; i < 4; i++) {
                int k = i;
                saysState(x -> x.extreme(2, k / 2, k % 2));
            }
        });
        test("14: UNKNOWN ahead of OUTSIDE, NO, STATE", () -> {
            WishLamp x = new WishLamp();
            due("and OUTSIDE", x.extreme(4, 2, 2), UNKNOWN);
            due("and NO", x.extreme(4, 0, 0), UNKNOWN);
            due("and STATE", wish(x, "0").extreme(-1, 0, 0), UNKNOWN);
        });
        test("14: OUTSIDE ahead of NO, STATE", () -> {
            WishLamp x = new WishLamp();
            due("and NO", x.extreme(0, 2, 0), OUTSIDE);
            due("and NO", x.extreme(0, 0, 2), OUTSIDE);
            due("and STATE", wish(x, "0").extreme(0, -1, 0), OUTSIDE);
            due("and STATE", x.extreme(0, 0, -1), OUTSIDE);
        });
        test("14: the least and the most that it can be", () -> {
            WishLamp x = wish(even(6, 1, 9), "1");
            due("best", x.extreme(1, 1, 0), 1054);
            due("best", x.extreme(1, 1, 1), 63);
            due("worst", x.extreme(1, 0, 0), 1000);
            due("worst", x.extreme(1, 0, 1), 0);
            WishLamp y = wish(even(6, 1, -9), "1");
            due("worst", y.extreme(1, 0, 0), 946);
            due("worst", y.extreme(1, 0, 1), 63);
            due("best", y.extreme(1, 1, 0), 1000);
            due("best", y.extreme(1, 1, 1), 0);
        });
        test("WORST, BEST: the least such WORLD", () -> {
            WishLamp x = wish(new WishLamp(), "|cd");
            due("worst", x.extreme(0, 0, 1), 4);
            due("best", x.extreme(0, 1, 1), 4);
            x.worth(0, 3, 1);
            due("best", x.extreme(0, 1, 1), 8);
            x.worth(0, 3, -1);
            due("worst", x.extreme(0, 0, 1), 8);
        });
        test("WORST, BEST of just one WORLD", () -> {
            WishLamp x = wish(cousins(), "&&ab&cd");
            for (int which = 0; which < 2; which++) {
                due("worth", x.extreme(0, which, 0), 1002);
                due("world", x.extreme(0, which, 1), 15);
            }
        });
        test("WORST, BEST: by no WAY, for no WISHER", () -> {
            WishLamp x = wish(cousins(), "|ab");
            x.taste(0, 9);
            for (int way = 0; way <= 2; way++) {
                x.set(0, way);
                x.set(1, 3 - way);
                due("worst", x.extreme(0, 0, 1), 2);
                due("best", x.extreme(0, 1, 1), 1);
            }
        });
    }

    // ---- promise 15: harmed

    private static void promise15() {
        test("15: NO", () -> saysNo(x -> x.harmed()));
        test("15: STATE", () -> saysState(x -> x.harmed()));
        test("HARMED: worth less than NOW; as much is no harm", () -> {
            WishLamp x = wish(new WishLamp(), "&a&-b&-c-d");
            for (int v = -1; v <= 1; v++) {
                for (int c = 0; c < 4; c++) x.worth(c, 0, v);
                due("worth " + v, x.harmed(), v < 0 ? 15 : 0);
            }
        });
        test("15: as bits: each COUSIN, with no SIXTH, too", () -> {
            WishLamp x = wish(new WishLamp(), "a");
            for (int c = 0; c < 4; c++) {
                x.worth(c, 0, -1);
                due("alone", x.harmed(), 1 << c);
                x.worth(c, 0, 0);
            }
        });
        test("HARMED: by the WORLD of nothing", () -> {
            WishLamp x = wish(even(4, 2, 1), "&-a&-b&-c-d");
            x.now(8);
            due("what is made", x.makes(), 0);
            due("2 loses d", x.harmed(), 4);
        });
        test("HARMED: if NOW is made again, nobody", () -> {
            WishLamp x = wish(even(4, 2, -9), "&&ab&cd");
            x.now(15);
            due("as now", x.harmed(), 0);
        });
        test("HARMED: by what a WORLD that does not keep it was worth", () -> {
            WishLamp x = law(even(4, 2, 9), "-a");
            x.now(15);
            due("a goes", wish(x, "&-a&b&cd").harmed(), 4);
        });
    }

    // ---- promises 16, 17: grant, undo

    private static void promise16() {
        test("16: NO", () -> saysNo(x -> x.grant()));
        test("16: STATE", () -> {
            WishLamp x = wish(new WishLamp(), "0");
            x.now(5);
            due("void", x.grant(), STATE);
            due("the pad stays", x.told(0), 1);
            due("now stays", x.told(2), 5);
            due("nothing to be undone", x.told(6), 0);
            law(x, "0");
            due("by the law", wish(x, "1").grant(), STATE);
            due("the pad stays", x.told(0), 1);
        });
        test("16: the PAD is empty then", () -> {
            WishLamp x = wish(new WishLamp(), times(23, "-") + "a");
            due("grant", x.grant(), 0);
            due("told", x.told(0), 0);
            due("once more", x.grant(), NO);
            due("once is once", x.told(6), 1);
        });
        test("16: a WISH that makes NOW again counts", () -> {
            WishLamp x = wish(new WishLamp(), "1");
            due("grant", x.grant(), 0);
            due("to be undone", x.told(6), 1);
            due("undo", x.undo(), 0);
            due("nothing", x.told(6), 0);
        });
        test("16: what THE SPIRIT makes is NOW, the last world, too", () -> {
            for (int n = 2; n <= 6; n++) {
                WishLamp x = lamp(n);
                int last = (1 << n) - 1;
                due("grant", wish(x, just(n, last)).grant(), last);
                due("now", x.told(2), last);
                due("grant", wish(x, just(n, 0)).grant(), 0);
                due("now", x.told(2), 0);
            }
        });
    }

    private static WishLamp granted(int count) {
        WishLamp x = lamp(5);
        for (int i = 1; i <= count; i++) wish(x, just(5, i)).grant();
        return x;
    }

    private static void undoneDownTo(WishLamp x, int from, int last) {
        for (int i = from; i >= last; i--) {
            due("to be undone", x.told(6), i - last + 1);
            due("undo", x.undo(), i);
            due("now", x.told(2), i);
        }
        due("there is nothing", x.undo(), STATE);
        due("now stays", x.told(2), last);
    }

    private static void promise17() {
        test("17: STATE: there is nothing", () -> {
            WishLamp x = new WishLamp();
            x.now(7);
            due("undo", x.undo(), STATE);
            due("now", x.told(2), 7);
        });
        test("17: one", () -> undoneDownTo(granted(1), 0, 0));
        test("17: 15 are kept", () -> undoneDownTo(granted(15), 14, 0));
        test("17: 16 at most are kept", () -> undoneDownTo(granted(16), 15, 0));
        test("17: of 17 the latest ones", () -> undoneDownTo(granted(17), 16, 1));
        test("17: of 20 the latest ones", () -> undoneDownTo(granted(20), 19, 4));
        test("17: the latest WISH that was GRANTED and not UNDONE", () -> {
            WishLamp x = granted(3);
            due("undo", x.undo(), 2);
            due("undo", x.undo(), 1);
            wish(x, just(5, 9)).grant();
            due("undo", x.undo(), 1);
            due("undo", x.undo(), 0);
            due("nothing", x.undo(), STATE);
        });
        test("17: 16, one UNDONE, one more, one more", () -> {
            WishLamp x = granted(16);
            due("undo", x.undo(), 15);
            wish(x, just(5, 30)).grant();
            due("16 again", x.told(6), 16);
            wish(x, just(5, 31)).grant();
            due("16 still", x.told(6), 16);
            due("undo", x.undo(), 30);
            undoneDownTo(x, 15, 1);
        });
        test("17: the PAD stays, the law stays", () -> {
            WishLamp x = granted(1);
            law(x, "b");
            wish(x, "&a");
            due("undo", x.undo(), 0);
            due("signs", x.told(0), 2);
            due("law", x.told(9), 16);
        });
        test("17: NOW need not keep the law then", () -> {
            WishLamp x = granted(1);
            law(x, "a");
            due("undo", x.undo(), 0);
        });
    }

    // ---- promise 18: comma

    private static void commaIs(WishLamp x, String text, int place, int sign, int value) {
        wish(x, text);
        due("place in " + text, x.comma(0), place);
        due("sign in " + text, x.comma(1), sign);
        due("worth of " + text, x.comma(2), value);
        due("the pad stays", x.told(0), text.length());
    }

    private static void promise18() {
        test("18: what 0, 1, 2", () -> {
            WishLamp x = wish(cousins(), "-b");
            due("0", x.comma(0), 0);
            due("2", x.comma(2), 997);
            due("-1", x.comma(-1), OUTSIDE);
            due("3", x.comma(3), OUTSIDE);
            for (int v : FAR_OFF) due("far off", x.comma(v), OUTSIDE);
        });
        test("18: NO: there is a FAULT", () -> {
            for (int what = 0; what <= 2; what++) {
                int w = what;
                saysNo(x -> x.comma(w));
            }
        });
        test("18: OUTSIDE ahead of NO", () -> {
            due("empty", new WishLamp().comma(3), OUTSIDE);
            due("empty", new WishLamp().comma(-1), OUTSIDE);
        });
        test("18: NONE: there is no such sign", () -> {
            for (String text : new String[] {"a", "d", "0", "1", "~a"}) commaIs(cousins(), text, NONE, NONE, NONE);
        });
        test("18: signs that went are no signs of the WISH", () -> {
            WishLamp x = wish(cousins(), "a-");
            commaIs(x, "a", NONE, NONE, NONE);
            wish(x, "-b&");
            commaIs(x, "-b", 0, 0, 997);
            wish(x, times(40, "-"));
            commaIs(x, "~d", NONE, NONE, NONE);
        });
        test("18: NONE: all are VOID then", () -> {
            commaIs(cousins(), "-0", NONE, NONE, NONE);
            commaIs(cousins(), "-1", 0, 0, 997);
            commaIs(law(cousins(), "0"), "&a-b", NONE, NONE, NONE);
            commaIs(law(cousins(), "-a"), "-a", NONE, NONE, NONE);
        });
        test("18: no STATE: of a VOID WISH it is told, too", () -> commaIs(cousins(), "&b-b", 0, '>', 1000));
        test("COMMA: those by which it is VOID do not count", () -> {
            WishLamp x = law(new WishLamp(), "a");
            x.worth(0, 0, -5);
            commaIs(x, "^a1", 0, '&', 995);
        });
        test("COMMA: It may be what it is", () -> {
            commaIs(cousins(), "&a-b", 0, '&', 1005);
            commaIs(cousins(), "&ab", 0, '&', 1002);
        });
        test("COMMA: left out (a -): 0", () -> {
            commaIs(cousins(), "-b", 0, 0, 997);
            commaIs(cousins(), "-~a", 0, 0, 997);
            commaIs(cousins(), "&a--b", 2, 0, 1005);
        });
        test("COMMA: a - is not made another sign, nor kept", () -> {
            WishLamp x = new WishLamp();
            x.worth(0, 0, -5);
            commaIs(x, "-a", 0, 0, 995);
        });
        test("COMMA: by each of the five signs", () -> {
            for (char was : "&|>=^".toCharArray()) {
                commaIs(cousins(), was + "a-b", 0, '&', 1005);
                commaIs(cousins(), was + "0a", 0, '|', 1002);
                commaIs(cousins(), was + "b-b", 0, '>', 1000);
                WishLamp x = new WishLamp();
                x.worth(0, 0, -1);
                x.worth(0, 1, -3);
                law(x, "-&ab");
                commaIs(x, was + "ab", 0, '=', 1000);
                WishLamp y = new WishLamp();
                y.worth(0, 0, 1);
                y.worth(0, 1, 1);
                y.worth(0, 2, -9);
                law(y, "^c^ab");
                commaIs(y, was + "ab", 0, '^', 1001);
            }
        });
        test("COMMA: of several the first place", () -> {
            commaIs(new WishLamp(), "^a|b-c", 0, '&', 1000);
            commaIs(cousins(), "--b", 0, 0, 1000);
            commaIs(new WishLamp(), "-|a>bc", 0, 0, 1000);
            commaIs(new WishLamp(), "-&a-a", 1, '&', 1000);
        });
        test("COMMA: then by the order & | > = ^", () -> {
            commaIs(new WishLamp(), "^ab", 0, '&', 1000);
            commaIs(new WishLamp(), "^a-a", 0, '|', 1000);
            commaIs(new WishLamp(), "=00", 0, '>', 1000);
            commaIs(new WishLamp(), "^00", 0, '>', 1000);
            WishLamp x = law(new WishLamp(), "^ab");
            commaIs(x, "&ab", 0, '|', 1000);
        });
        test("COMMA: the last place of 24", () -> {
            WishLamp x = even(6, 0, 9);
            x.now(63);
            commaIs(x, times(8, "-") + "&a&~b&~c&~d&~e-f", 22, 0, 1054);
        });
        test("COMMA: the least and the most that it can be", () -> {
            commaIs(even(6, 0, -9), "-0", NONE, NONE, NONE);
            commaIs(even(6, 0, -9), "-1", 0, 0, 946);
            commaIs(even(6, 0, 9), "&a&b&c&d&ef", 0, '&', 1054);
        });
        test("COMMA: what is not SAID stays so", () -> {
            WishLamp x = even(4, 0, 1);
            x.set(2, 0);
            commaIs(x, "-a", 0, 0, 1001);
            commaIs(x, "&a-b", 2, 0, 1002);
        });
        test("COMMA: by THE SPIRIT's WAY, for THE WISHER", () -> {
            WishLamp x = cousins();
            x.taste(0, 1);
            x.set(0, 1);
            commaIs(x, "&ab", 0, '|', 1005);
            x.set(0, 2);
            commaIs(x, "|ab", 0, '&', 1002);
            x.set(1, 1);
            commaIs(x, "|ab", 0, '>', 1000);
        });
    }

    public static void main(String[] args) {
        promise12();
        promise13();
        promise14();
        promise15();
        promise16();
        promise17();
        promise18();
        end();
    }
}
