/** Boundary cases of cousins, sights and chance: the terms of part 4, promises 24 to 35. */
public final class BoundaryCousinsTest extends Boundary {
    private static final String[] FAULTY = {"", "&", "&a", "~", "ab", "e", "!", times(24, "-"), times(24, "-") + "a", times(40, "a")};

    interface Ask {
        long of(WishLamp x);
    }

    /** What is due for each fault, also where the wish would be void, too. */
    private static void ofFaults(Ask ask, long want) {
        for (String text : FAULTY) {
            WishLamp x = wish(cousins(), text);
            due("of " + text, ask.of(x), want);
            due("the pad stays", x.told(0), text.length());
            due("of " + text + ", all void", ask.of(wish(law(x, "0"), text)), want);
        }
    }

    private static void ofVoid(Ask ask, long want) {
        WishLamp x = wish(cousins(), "0");
        due("never", ask.of(x), want);
        due("not and so", ask.of(wish(x, "&a-a")), want);
        due("against the law", ask.of(wish(law(x, "-a"), "a")), want);
        x.set(2, 0);
        due("what must be still", ask.of(wish(law(x, "b"), "a")), want);
        due("the pad stays", x.told(0), 1);
    }

    // ---- promise 24: sixths

    private static void sharesAre(WishLamp x, int... shares) {
        for (int c = 0; c < 4; c++) due("sixths of " + c, x.told(20 + c), shares[c]);
    }

    private static void promise24() {
        test("24: all of one COUSIN", () -> {
            for (int c = 0; c < 4; c++) {
                WishLamp x = new WishLamp();
                int[] s = {0, 0, 0, 0};
                s[c] = 6;
                due("sixths", x.sixths(s[0], s[1], s[2], s[3]), 1);
                sharesAre(x, s);
            }
        });
        test("24: all that are together 6, and no other ones of 0 to 6", () -> {
            WishLamp x = new WishLamp();
            int calls = 1;
            for (int i = 0; i < 2401; i++) {
                int a = i / 343;
                int b = i / 49 % 7;
                int c = i / 7 % 7;
                int d = i % 7;
                if (calls == 512) {
                    x = new WishLamp();
                    calls = 0;
                }
                calls++;
                due("sixths(" + a + b + c + d + ")", x.sixths(a, b, c, d), a + b + c + d == 6 ? 1 : OUTSIDE);
            }
        });
        test("24: each 0 to 6, though they are 6 together", () -> {
            WishLamp x = new WishLamp();
            x.sixths(3, 1, 2, 0);
            int[][] bad = {{-1, 7, 0, 0}, {7, -1, 0, 0}, {0, 0, 7, -1}, {0, 0, -1, 7}, {-1, 6, 1, 0}, {1, -1, 6, 0}, {6, 1, -1, 0},
                {1, 6, 0, -1}, {-6, 6, 6, 0}, {12, -6, 0, 0}, {8, 0, -2, 0}, {3, 3, 2, -2}};
            for (int[] b : bad) due("sixths", x.sixths(b[0], b[1], b[2], b[3]), OUTSIDE);
            sharesAre(x, 3, 1, 2, 0);
        });
        test("24: all together 6, one less and one more", () -> {
            WishLamp x = new WishLamp();
            due("5", x.sixths(2, 1, 1, 1), OUTSIDE);
            due("7", x.sixths(2, 2, 2, 1), OUTSIDE);
            due("0", x.sixths(0, 0, 0, 0), OUTSIDE);
            due("24", x.sixths(6, 6, 6, 6), OUTSIDE);
            sharesAre(x, 6, 0, 0, 0);
        });
        test("24: numbers that wrap round to 6", () -> {
            WishLamp x = new WishLamp();
            due("wrap", x.sixths(MAX, MAX, 6, 2), OUTSIDE);
            due("wrap", x.sixths(MIN, MIN, 6, 0), OUTSIDE);
            due("wrap", x.sixths(MIN, MAX, 6, 1), OUTSIDE);
            due("wrap", x.sixths(1 << 30, 1 << 30, 1 << 30, (1 << 30) + 6), OUTSIDE);
            sharesAre(x, 6, 0, 0, 0);
        });
    }

    // ---- promises 25, 26, 27: votes, agreed, paid

    private static void promise25() {
        test("25: NO", () -> ofFaults(x -> x.votes(), NO));
        test("25: STATE", () -> ofVoid(x -> x.votes(), STATE));
        test("VOTES: worth more than NOW; as much is not more", () -> {
            WishLamp x = wish(new WishLamp(), "&a&-b&-c-d");
            for (int v = -1; v <= 1; v++) {
                x.worth(0, 0, v);
                due("worth " + v, x.votes(), v > 0 ? 6 : 0);
            }
        });
        test("VOTES: nobody, each one, all", () -> {
            WishLamp x = wish(new WishLamp(), "&a&-b&-c-d");
            x.sixths(1, 2, 0, 3);
            int[] shares = {1, 2, 0, 3};
            due("nobody", x.votes(), 0);
            for (int c = 0; c < 4; c++) {
                x.worth(c, 0, 9);
                due("one", x.votes(), shares[c]);
                x.worth(c, 0, 0);
            }
            for (int c = 0; c < 4; c++) x.worth(c, 0, 1);
            due("all", x.votes(), 6);
        });
        test("VOTES: for the WORLD of nothing", () -> {
            WishLamp x = wish(even(4, 3, -1), "&-a&-b&-c-d");
            x.sixths(1, 0, 0, 5);
            x.now(8);
            due("what is made", x.makes(), 0);
            due("3 gains", x.votes(), 5);
        });
        test("VOTES: NOW is made again: nobody", () -> {
            WishLamp x = wish(even(4, 0, 9), "&&ab&cd");
            x.now(15);
            due("votes", x.votes(), 0);
        });
    }

    private static void agreedIs(WishLamp x, int term, int votes) {
        due("agreed(0)", x.agreed(0), term);
        due("agreed(1)", x.agreed(1), votes);
    }

    private static void promise26() {
        test("26: what 0, 1", () -> {
            WishLamp x = new WishLamp();
            due("-1", x.agreed(-1), OUTSIDE);
            due("2", x.agreed(2), OUTSIDE);
            for (int v : FAR_OFF) due("far off", x.agreed(v), OUTSIDE);
        });
        test("26: NONE: all are VOID", () -> {
            WishLamp x = law(cousins(), "0");
            agreedIs(x, NONE, NONE);
            due("OUTSIDE, though all are", x.agreed(2), OUTSIDE);
        });
        test("AGREED: of as many WORDS as there are THINGS", () -> {
            for (int n = 2; n <= 6; n++) agreedIs(even(n, 0, 1), (power(n) - 1) / 2, 6);
        });
        test("AGREED: nobody can gain: no WORDS, no VOTES", () -> agreedIs(new WishLamp(), 0, 0));
        test("AGREED: the most VOTES, though it is worth less to all", () -> {
            WishLamp x = new WishLamp();
            x.sixths(1, 5, 0, 0);
            x.worth(0, 0, 9);
            x.worth(1, 0, -1);
            x.set(1, 1);
            x.now(1);
            agreedIs(x, 54, 5);
            x.sixths(5, 1, 0, 0);
            agreedIs(x, 54, 1);
            x.now(0);
            agreedIs(x, 0, 5);
        });
        test("AGREED: of several worth most to all COUSINS, with no SIXTH, too", () -> {
            WishLamp x = new WishLamp();
            x.worth(0, 0, 1);
            agreedIs(x, 27, 6);
            x.worth(3, 1, 1);
            agreedIs(x, 36, 6);
            x.worth(3, 1, -1);
            x.set(0, 1);
            x.taste(1, 1);
            agreedIs(x, 45, 6);
        });
        test("AGREED: to all COUSINS together, each of them", () -> {
            for (int c = 0; c < 4; c++) {
                WishLamp x = new WishLamp();
                int[] shares = {0, 0, 0, 0};
                shares[(c + 1) % 4] = 6;
                x.sixths(shares[0], shares[1], shares[2], shares[3]);
                x.worth((c + 1) % 4, 0, 1);
                x.worth(c, 1, 1);
                x.set(1, (c + 2) % 4);
                agreedIs(x, 36, 6);
                x.worth(c, 0, -9);
                agreedIs(x, 36, 6);
            }
        });
        test("AGREED: then of the fewest WORDS, then the least number", () -> {
            WishLamp x = law(new WishLamp(), "=ab");
            x.worth(0, 0, 1);
            agreedIs(x, 9, 6);
            law(x, "=a&bc");
            x.now(0);
            agreedIs(x, 27, 6);
        });
        test("AGREED: worths at their ends do not outweigh a vote", () -> {
            WishLamp x = lamp(6);
            for (int c = 0; c < 4; c++) {
                for (int t = 1; t < 6; t++) x.worth(c, t, -9);
            }
            x.worth(0, 0, 9);
            x.sixths(0, 0, 0, 6);
            x.worth(3, 0, 1);
            for (int t = 1; t < 6; t++) x.worth(3, t, 0);
            law(x, "=a&b&c&d&ef");
            // a with all the others: one gains 1, the rest lose 126
            agreedIs(x, 243, 6);
        });
        test("AGREED: a VOID TERM is none", () -> {
            WishLamp x = law(cousins(), "b");
            agreedIs(x, 27, 6);
            x.set(2, 0);
            agreedIs(x, 36, 6);
        });
    }

    private static void promise27() {
        test("27: NO", () -> ofFaults(x -> x.paid(), NO));
        test("27: STATE", () -> ofVoid(x -> x.paid(), STATE));
        test("PAID: nobody loses", () -> {
            WishLamp x = wish(even(4, 0, 1), "a");
            x.sixths(3, 1, 1, 1);
            due("paid", x.paid(), 0);
            x.worth(0, 0, 0);
            due("nor gains", x.paid(), 0);
        });
        test("PAID: they gain just so much, one less, one more", () -> {
            WishLamp x = wish(new WishLamp(), "&a&-b&-c-d");
            x.sixths(3, 3, 0, 0);
            x.worth(1, 0, -5);
            x.worth(0, 0, 5);
            due("just so much", x.paid(), 5);
            x.worth(0, 0, 4);
            due("less", x.paid(), NONE);
            x.worth(0, 0, 6);
            due("more", x.paid(), 5);
            x.worth(0, 0, 0);
            due("nothing", x.paid(), NONE);
        });
        test("PAID: they gain what it is worth more than NOW, no more", () -> {
            WishLamp x = wish(new WishLamp(), "&a&b&-c-d");
            x.worth(0, 0, 7);
            x.worth(0, 1, 3);
            x.worth(1, 0, 5);
            x.worth(1, 1, -3);
            x.sixths(3, 3, 0, 0);
            x.now(1);
            due("3 of 3", x.paid(), 3);
            x.worth(0, 1, 2);
            due("3 of 2", x.paid(), NONE);
            x.worth(0, 0, -7);
            due("3 of 2", x.paid(), NONE);
        });
        test("PAID: for the WORLD of nothing", () -> {
            WishLamp x = wish(even(4, 3, -2), "&-a&-b&-c-d");
            x.worth(0, 3, 1);
            x.sixths(1, 0, 0, 5);
            x.now(8);
            due("what is made", x.makes(), 0);
            due("3 pays 0", x.paid(), 1);
        });
        test("PAID: several pay, several are paid", () -> {
            WishLamp x = wish(new WishLamp(), "&a&-b&-c-d");
            x.sixths(1, 2, 2, 1);
            x.worth(0, 0, 3);
            x.worth(1, 0, -4);
            x.worth(2, 0, -2);
            x.worth(3, 0, 3);
            due("6 of 6", x.paid(), 6);
            x.worth(3, 0, 2);
            due("6 of 5", x.paid(), NONE);
        });
        test("PAID: those without a SIXTH neither pay nor are paid", () -> {
            WishLamp x = wish(new WishLamp(), "&a&-b&-c-d");
            x.worth(0, 0, 1);
            x.worth(1, 0, -9);
            x.worth(2, 0, 9);
            x.sixths(6, 0, 0, 0);
            due("1 is not paid", x.paid(), 0);
            x.sixths(5, 1, 0, 0);
            due("2 pays not", x.paid(), NONE);
            x.sixths(4, 1, 1, 0);
            due("one sixth is enough", x.paid(), 9);
        });
        test("PAID: the most that it can be", () -> {
            WishLamp x = wish(lamp(6), just(6, 63));
            for (int t = 0; t < 6; t++) {
                x.worth(0, t, -9);
                x.worth(1, t, 9);
            }
            x.sixths(3, 3, 0, 0);
            due("54", x.paid(), 54);
            x.now(63);
            due("as now", x.paid(), 0);
        });
    }

    // ---- promises 28, 29: picked, fit

    private static void promise28() {
        test("28: OUTSIDE: the WORLD", () -> {
            for (int n = 2; n <= 6; n++) {
                WishLamp x = wish(lamp(n), "1");
                due("0", x.picked(0), 1);
                due("the last one", x.picked((1 << n) - 1), 2);
                due("one more", x.picked(1 << n), OUTSIDE);
                due("-1", x.picked(-1), OUTSIDE);
                due("64", x.picked(64), OUTSIDE);
                for (int v : FAR_OFF) due("far off", x.picked(v), OUTSIDE);
                due("two", x.told(7), 2);
            }
        });
        test("28: NO: there is a FAULT", () -> {
            ofFaults(x -> x.picked(0), NO);
            due("none", new WishLamp().told(7), 0);
        });
        test("28: NO: the WORLD does not KEEP the WISH", () -> {
            WishLamp x = wish(new WishLamp(), "a");
            due("0", x.picked(0), NO);
            due("14", x.picked(14), NO);
            due("15", x.picked(15), 1);
            law(x, "-b");
            due("nor the law", wish(x, "a").picked(3), NO);
            due("13", x.picked(13), 2);
            x.set(2, 1);
            due("two stir", x.picked(13), NO);
            due("one stirs", x.picked(9), 3);
            due("told", x.told(7), 3);
        });
        test("28: NO: of a VOID WISH, not STATE", () -> ofVoid(x -> x.picked(0), NO));
        test("28: SIGHTS (6 at most): FULL", () -> {
            WishLamp x = wish(new WishLamp(), "1");
            for (int i = 1; i <= 6; i++) due("picked", x.picked(0), i);
            due("a seventh", x.picked(0), FULL);
            due("another one", x.picked(15), FULL);
            due("told", x.told(7), 6);
            due("what was seen is the same", x.fit(-1), 16);
            x.forget();
            due("room again", x.picked(15), 1);
        });
        test("28: OUTSIDE ahead of NO, FULL", () -> {
            WishLamp x = new WishLamp();
            due("and NO", x.picked(16), OUTSIDE);
            due("and NO", wish(x, "0").picked(-1), OUTSIDE);
            wish(x, "1");
            for (int i = 0; i < 6; i++) x.picked(0);
            due("and FULL", x.picked(16), OUTSIDE);
            due("and both", wish(x, "&").picked(16), OUTSIDE);
        });
        test("28: NO ahead of FULL", () -> {
            WishLamp x = wish(new WishLamp(), "a");
            for (int i = 0; i < 6; i++) x.picked(1);
            due("does not keep it", x.picked(0), NO);
            due("fault", wish(x, "").picked(1), NO);
            due("void", wish(x, "0").picked(1), NO);
            due("full", wish(x, "a").picked(1), FULL);
        });
        test("28: six of each kind", () -> {
            WishLamp x = wish(new WishLamp(), "1");
            for (int i = 1; i <= 6; i++) due("came", x.came(0, 0), i);
            for (int i = 1; i <= 6; i++) due("picked", x.picked(0), i);
            due("came", x.told(8), 6);
        });
        test("28: the PAD, NOW stay", () -> {
            WishLamp x = wish(new WishLamp(), "a");
            x.picked(3);
            due("pad", x.told(0), 1);
            due("now", x.told(2), 0);
            due("nothing to be undone", x.told(6), 0);
        });
    }

    private static void fitsAre(WishLamp x, int count, int least, int... each) {
        due("how many", x.fit(-1), count);
        due("the least", x.fit(-2), least);
        for (int t = 0; t < each.length; t++) due("of thing " + t, x.fit(t), each[t]);
        due("no thing more", x.fit(each.length), UNKNOWN);
    }

    private static void promise29() {
        test("29: UNKNOWN", () -> {
            for (int n = 2; n <= 6; n++) {
                WishLamp x = lamp(n);
                due("the last one", x.fit(n - 1), 7);
                due("n", x.fit(n), UNKNOWN);
                due("6", x.fit(6), UNKNOWN);
                due("-3", x.fit(-3), UNKNOWN);
                for (int v : FAR_OFF) due("far off", x.fit(v), UNKNOWN);
            }
        });
        test("FIT: no SIGHTS: all TASTES", () -> {
            fitsAre(lamp(2), 9, 0, 7, 7);
            fitsAre(lamp(3), 27, 0, 7, 7, 7);
            fitsAre(lamp(4), 81, 0, 7, 7, 7, 7);
            fitsAre(lamp(5), 243, 0, 7, 7, 7, 7, 7);
            fitsAre(lamp(6), 729, 0, 7, 7, 7, 7, 7, 7);
        });
        test("FIT: just one TASTE", () -> {
            WishLamp x = wish(lamp(6), "1");
            x.picked(63);
            fitsAre(x, 1, 728, 4, 4, 4, 4, 4, 4);
        });
        test("FIT: of several the least as bits: 0 is as good as -1", () -> {
            WishLamp x = wish(lamp(6), "1");
            x.picked(0);
            fitsAre(x, 64, 0, 3, 3, 3, 3, 3, 3);
        });
        test("FIT: NONE", () -> {
            WishLamp x = wish(new WishLamp(), "1");
            x.picked(0);
            x.picked(1);
            fitsAre(x, 0, NONE, 0, 0, 0, 0);
            x.forget();
            fitsAre(x, 81, 0, 7, 7, 7, 7);
        });
        test("FIT: a WISH that one WORLD keeps tells nothing", () -> {
            WishLamp x = wish(lamp(2), "&ab");
            x.picked(3);
            fitsAre(x, 9, 0, 7, 7);
        });
        test("FIT: THING a's digit is the highest", () -> {
            WishLamp x = wish(lamp(2), "1");
            x.picked(1);
            fitsAre(x, 2, 6, 4, 3);
            x.forget();
            x.picked(2);
            fitsAre(x, 2, 2, 3, 4);
        });
        test("FIT: a tie goes to the least WORLD", () -> {
            WishLamp x = wish(lamp(2), "^ab");
            x.picked(1);
            // a is liked as much as b, or more
            fitsAre(x, 6, 0, 7, 7);
            x.forget();
            x.picked(2);
            fitsAre(x, 3, 1, 3, 6);
        });
        test("PICKED: NOW, THE LAW, STILL as they were, whatever the WAY, the TASTE", () -> {
            WishLamp x = wish(lamp(2), "1");
            x.set(2, 1);
            x.now(3);
            x.picked(2);
            // of 1, 2, 3 it took 2: a is not liked, b is more
            int count = x.fit(-1);
            int least = x.fit(-2);
            due("count", count, 3);
            due("least", least, 1);
            x.now(0);
            x.set(2, 0);
            x.taste(0, 9);
            x.set(0, 1);
            law(x, "a");
            fitsAre(x, count, least, 3, 6);
            wish(x, "1");
            fitsAre(x, count, least, 3, 6);
            wish(x, "-b");
            fitsAre(x, count, least, 3, 6);
        });
        test("PICKED: each of its own WISH, NOW and STILL", () -> {
            WishLamp x = wish(lamp(2), "a");
            x.picked(3);
            // b is liked
            fitsAre(x, 3, 2, 7, 4);
            wish(x, "b").picked(2);
            // a is not
            fitsAre(x, 2, 2, 3, 4);
            x.set(2, 0);
            x.now(1);
            wish(x, "1").picked(1);
            fitsAre(x, 2, 2, 3, 4);
            wish(x, "|a-a").picked(0);
            fitsAre(x, 2, 2, 3, 4);
            wish(x, "|b-b").picked(3);
            fitsAre(x, 2, 2, 3, 4);
            x.picked(1);
            fitsAre(x, 0, NONE, 0, 0);
        });
    }

    // ---- promises 30, 31, 32: came, letters, forget

    private static void promise30() {
        test("30: OUTSIDE: WORLDS", () -> {
            for (int n = 2; n <= 6; n++) {
                WishLamp x = lamp(n);
                int last = (1 << n) - 1;
                due("0, last", x.came(0, last), 1);
                due("last, 0", x.came(last, 0), 2);
                due("from", x.came(last + 1, 0), OUTSIDE);
                due("to", x.came(0, last + 1), OUTSIDE);
                due("from", x.came(-1, 0), OUTSIDE);
                due("to", x.came(0, -1), OUTSIDE);
                for (int v : FAR_OFF) {
                    due("from", x.came(v, 0), OUTSIDE);
                    due("to", x.came(0, v), OUTSIDE);
                }
                due("two", x.told(8), 2);
            }
        });
        test("30: SIGHTS (6 at most): FULL", () -> {
            WishLamp x = new WishLamp();
            for (int i = 1; i <= 6; i++) due("came", x.came(0, 0), i);
            due("a seventh", x.came(0, 0), FULL);
            due("another one", x.came(1, 2), FULL);
            due("told", x.told(8), 6);
            due("what was seen is the same", x.letters(1), 0);
            x.forget();
            due("room again", x.came(1, 2), 1);
        });
        test("30: OUTSIDE ahead of FULL", () -> {
            WishLamp x = new WishLamp();
            for (int i = 0; i < 6; i++) x.came(0, 0);
            due("from", x.came(16, 0), OUTSIDE);
            due("to", x.came(0, 16), OUTSIDE);
        });
        test("30: the sixth counts as the first does", () -> {
            WishLamp x = new WishLamp();
            x.set(0, 2);
            for (int i = 0; i < 5; i++) x.came(0, 1);
            due("five", x.letters(0), 8);
            x.came(14, 15);
            due("six", x.letters(0), 1);
        });
        test("30: six of each kind", () -> {
            WishLamp x = wish(new WishLamp(), "1");
            for (int i = 1; i <= 6; i++) x.picked(0);
            for (int i = 1; i <= 6; i++) due("came", x.came(0, 0), i);
            due("picked", x.told(7), 6);
        });
        test("30: a FAULT on the PAD is nothing to it", () -> due("came", wish(new WishLamp(), "&").came(0, 1), 1));
    }

    private static void promise31() {
        test("31: what 0, 1", () -> {
            WishLamp x = new WishLamp();
            due("-1", x.letters(-1), OUTSIDE);
            due("2", x.letters(2), OUTSIDE);
            for (int v : FAR_OFF) due("far off", x.letters(v), OUTSIDE);
        });
        test("LETTERS: no SIGHTS: all TERMS", () -> {
            for (int n = 2; n <= 6; n++) lettersAre(lamp(n), power(n), 0);
        });
        test("LETTERS: just one", () -> {
            WishLamp x = lamp(6);
            x.set(2, 0);
            x.came(0, 63);
            lettersAre(x, 1, 364);
            x.came(63, 63);
            lettersAre(x, 1, 364);
        });
        test("LETTERS: NONE", () -> {
            WishLamp x = new WishLamp();
            x.came(0, 1);
            x.came(0, 2);
            lettersAre(x, 0, NONE);
        });
        test("LETTERS: NONE: all are VOID", () -> {
            WishLamp x = law(new WishLamp(), "0");
            x.came(0, 0);
            lettersAre(x, 0, NONE);
        });
        test("LETTERS: a TERM that is VOID from there does not fit", () -> {
            WishLamp x = law(lamp(2), "-b");
            x.came(0, 0);
            // nothing, not b, not a, neither
            lettersAre(x, 4, 0);
            x.set(2, 0);
            lettersAre(x, 4, 0);
            x.came(2, 0);
            lettersAre(x, 2, 2);
        });
        test("LETTERS: that of the fewest WORDS, the least number", () -> {
            WishLamp x = lamp(2);
            x.set(2, 0);
            x.came(3, 3);
            lettersAre(x, 4, 0);
            x.came(0, 3);
            lettersAre(x, 1, 4);
            x.forget();
            law(x, "=ab");
            x.set(2, 6);
            x.set(0, 2);
            x.came(0, 3);
            lettersAre(x, 3, 1);
        });
        test("LETTERS: THE WISHER, the WAY as they are", () -> {
            WishLamp x = lamp(2);
            x.worth(1, 0, -1);
            x.came(0, 1);
            // a; a, not b
            lettersAre(x, 2, 3);
            x.set(1, 1);
            lettersAre(x, 4, 0);
            x.set(0, 1);
            lettersAre(x, 2, 3);
        });
        test("LETTERS: from a WORLD to the same one", () -> {
            WishLamp x = lamp(2);
            x.set(2, 0);
            due("taken", x.came(1, 1), 1);
            lettersAre(x, 4, 0);
        });
    }

    private static void promise32() {
        test("32: of none", () -> {
            WishLamp x = new WishLamp();
            due("forget", x.forget(), 0);
            due("forget", x.forget(), 0);
        });
        test("32: SIGHTS of both kinds, 12 at most", () -> {
            WishLamp x = wish(new WishLamp(), "1");
            for (int i = 0; i < 7; i++) {
                x.picked(15);
                x.came(0, 15);
            }
            due("forget", x.forget(), 12);
            due("picked", x.told(7), 0);
            due("came", x.told(8), 0);
            due("fit", x.fit(-1), 81);
            due("letters", x.letters(0), 81);
            for (int i = 1; i <= 6; i++) due("picked", x.picked(0), i);
            for (int i = 1; i <= 6; i++) due("came", x.came(0, 0), i);
        });
        test("32: what is seen behind it is seen by itself", () -> {
            WishLamp x = wish(lamp(2), "1");
            x.picked(3);
            x.came(0, 3);
            x.forget();
            wish(x, "a").picked(1);
            // b is not liked
            fitsAre(x, 6, 0, 7, 3);
            x.came(0, 1);
            due("a; a, not b", x.letters(0), 2);
        });
        test("32: of one kind alone", () -> {
            WishLamp x = wish(new WishLamp(), "1");
            x.picked(1);
            x.picked(2);
            due("two", x.forget(), 2);
            x.came(1, 2);
            due("one", x.forget(), 1);
            due("none", x.forget(), 0);
        });
        test("32: all else stays", () -> {
            WishLamp x = full();
            x.image(0);
            int[] before = allTold(x);
            due("forget", x.forget(), 3);
            for (int i = 0; i < 70; i++) due("told(" + i + ")", x.told(i), i == 7 || i == 8 ? 0 : before[i]);
            x.restore(0);
            due("in an image they stay", x.told(7), 2);
            due("in an image they stay", x.told(8), 1);
        });
    }

    // ---- promises 33, 34: drunk, mean

    private static void promise33() {
        test("33: UNKNOWN", () -> {
            for (int n = 2; n <= 6; n++) {
                WishLamp x = wish(lamp(n), "1");
                partsAre(x.drunk(n - 1, 0), x.drunk(n - 1, 1), 1, 2);
                due("n", x.drunk(n, 0), LOST + UNKNOWN);
                due("-1", x.drunk(-1, 1), LOST + UNKNOWN);
                for (int v : FAR_OFF) due("far off", x.drunk(v, 0), LOST + UNKNOWN);
            }
        });
        test("33: OUTSIDE: parts 0, 1", () -> {
            WishLamp x = wish(new WishLamp(), "1");
            due("-1", x.drunk(0, -1), LOST + OUTSIDE);
            due("2", x.drunk(0, 2), LOST + OUTSIDE);
            for (int v : FAR_OFF) due("far off", x.drunk(0, v), LOST + OUTSIDE);
        });
        test("33: NO", () -> {
            ofFaults(x -> x.drunk(0, 0), LOST + NO);
            ofFaults(x -> x.drunk(3, 1), LOST + NO);
        });
        test("33: STATE", () -> {
            ofVoid(x -> x.drunk(0, 0), LOST + STATE);
            ofVoid(x -> x.drunk(3, 1), LOST + STATE);
        });
        test("33: UNKNOWN ahead of OUTSIDE, NO, STATE; OUTSIDE ahead of NO, STATE", () -> {
            WishLamp x = new WishLamp();
            due("UNKNOWN, OUTSIDE", x.drunk(4, 2), LOST + UNKNOWN);
            due("UNKNOWN, NO", x.drunk(4, 0), LOST + UNKNOWN);
            due("OUTSIDE, NO", x.drunk(0, 2), LOST + OUTSIDE);
            wish(x, "0");
            due("UNKNOWN, STATE", x.drunk(-1, 0), LOST + UNKNOWN);
            due("OUTSIDE, STATE", x.drunk(0, -1), LOST + OUTSIDE);
        });
        test("DRUNK: never, surely", () -> {
            WishLamp x = wish(new WishLamp(), "&a-b");
            partsAre(x.drunk(0, 0), x.drunk(0, 1), 1, 1);
            partsAre(x.drunk(1, 0), x.drunk(1, 1), 0, 1);
            partsAre(x.drunk(2, 0), x.drunk(2, 1), 1, 2);
        });
        test("DRUNK: of just one WORLD", () -> {
            WishLamp x = wish(lamp(6), just(6, 21));
            for (int t = 0; t < 6; t++) partsAre(x.drunk(t, 0), x.drunk(t, 1), t % 2 == 0 ? 1 : 0, 1);
        });
        test("DRUNK: in lowest terms, of 64 and of 63", () -> {
            WishLamp x = wish(lamp(6), "1");
            partsAre(x.drunk(5, 0), x.drunk(5, 1), 1, 2);
            wish(x, "|a|b|c|d|ef");
            partsAre(x.drunk(5, 0), x.drunk(5, 1), 32, 63);
            wish(x, "|a&bc");
            partsAre(x.drunk(0, 0), x.drunk(0, 1), 4, 5);
            partsAre(x.drunk(1, 0), x.drunk(1, 1), 3, 5);
        });
    }

    private static void promise34() {
        test("34: UNKNOWN", () -> {
            WishLamp x = wish(even(4, 3, 2), "1");
            partsAre(x.mean(3, 0), x.mean(3, 1), 1004, 1);
            due("4", x.mean(4, 0), LOST + UNKNOWN);
            due("-1", x.mean(-1, 1), LOST + UNKNOWN);
            for (int v : FAR_OFF) due("far off", x.mean(v, 0), LOST + UNKNOWN);
        });
        test("34: OUTSIDE: parts 0, 1", () -> {
            WishLamp x = wish(new WishLamp(), "1");
            due("-1", x.mean(0, -1), LOST + OUTSIDE);
            due("2", x.mean(0, 2), LOST + OUTSIDE);
            for (int v : FAR_OFF) due("far off", x.mean(0, v), LOST + OUTSIDE);
        });
        test("34: NO", () -> {
            ofFaults(x -> x.mean(0, 0), LOST + NO);
            ofFaults(x -> x.mean(3, 1), LOST + NO);
        });
        test("34: STATE", () -> {
            ofVoid(x -> x.mean(0, 0), LOST + STATE);
            ofVoid(x -> x.mean(3, 1), LOST + STATE);
        });
        test("34: UNKNOWN ahead of OUTSIDE, NO, STATE; OUTSIDE ahead of NO, STATE", () -> {
            WishLamp x = new WishLamp();
            due("UNKNOWN, OUTSIDE", x.mean(4, 2), LOST + UNKNOWN);
            due("UNKNOWN, NO", x.mean(4, 0), LOST + UNKNOWN);
            due("OUTSIDE, NO", x.mean(0, 2), LOST + OUTSIDE);
            wish(x, "0");
            due("UNKNOWN, STATE", x.mean(-1, 0), LOST + UNKNOWN);
            due("OUTSIDE, STATE", x.mean(0, -1), LOST + OUTSIDE);
        });
        test("DRUNK: the mean of just one WORLD, the least and the most", () -> {
            WishLamp x = wish(even(6, 2, 9), just(6, 63));
            partsAre(x.mean(2, 0), x.mean(2, 1), 1054, 1);
            WishLamp y = wish(even(6, 2, -9), just(6, 63));
            partsAre(y.mean(2, 0), y.mean(2, 1), 946, 1);
            partsAre(y.mean(1, 0), y.mean(1, 1), 1000, 1);
        });
        test("DRUNK: the mean in lowest terms, and 1000", () -> {
            WishLamp x = wish(even(6, 1, 9), "1");
            partsAre(x.mean(1, 0), x.mean(1, 1), 1027, 1);
            wish(x, "|a|b|c|d|ef");
            partsAre(x.mean(1, 0), x.mean(1, 1), 7192, 7);
            x.worth(1, 0, 8);
            partsAre(wish(x, "1").mean(1, 0), x.mean(1, 1), 2053, 2);
            WishLamp y = wish(even(6, 1, -9), "|a|b|c|d|ef");
            partsAre(y.mean(1, 0), y.mean(1, 1), 6808, 7);
        });
    }

    // ---- promise 35: year

    /** What year is to tell, wish by wish, with terms asked for from where it has come. */
    private static void yearIs(WishLamp x, int count, int seed, int m) {
        int[] told = {x.year(seed, m, 0), x.year(seed, m, 1), x.year(seed, m, 2)};
        int wisher = x.told(4);
        int number = seed;
        int world = x.told(2);
        int voids = 0;
        int harms = 0;
        for (int i = 0; i < m; i++) {
            number = (int) ((75L * number + 74L) % 65537L);
            int made = x.term(number % count);
            if (made == STATE) voids++;
            if (made >= 0 && made != world) {
                if (x.worthOf(wisher, made) < x.worthOf(wisher, world)) harms++;
                world = made;
                x.now(world);
            }
        }
        due("void", told[0], voids);
        due("world", told[1], world);
        due("harmed", told[2], harms);
    }

    private static void promise35() {
        test("35: seeds 0 to 9999", () -> {
            WishLamp x = even(2, 0, 1);
            // 74 is 2 by nine: not b; 29092 is 4 by nine: a and b
            due("0", x.year(0, 1, 1), 0);
            due("9999", x.year(9999, 1, 1), 3);
            due("-1", x.year(-1, 1, 0), OUTSIDE);
            due("10000", x.year(10000, 1, 0), OUTSIDE);
            for (int v : FAR_OFF) due("far off", x.year(v, 1, 0), OUTSIDE);
        });
        test("35: m 1 to 99", () -> {
            WishLamp x = law(new WishLamp(), "0");
            due("1", x.year(0, 1, 0), 1);
            due("99", x.year(0, 99, 0), 99);
            due("0", x.year(0, 0, 0), OUTSIDE);
            due("-1", x.year(0, -1, 0), OUTSIDE);
            due("100", x.year(0, 100, 0), OUTSIDE);
            for (int v : FAR_OFF) due("far off", x.year(0, v, 0), OUTSIDE);
        });
        test("35: what 0, 1, 2", () -> {
            WishLamp x = new WishLamp();
            due("-1", x.year(0, 1, -1), OUTSIDE);
            due("3", x.year(0, 1, 3), OUTSIDE);
            for (int v : FAR_OFF) due("far off", x.year(0, 1, v), OUTSIDE);
        });
        test("A YEAR: all VOID: nothing happens, nobody is harmed", () -> {
            WishLamp x = law(even(4, 0, 1), "0");
            x.now(15);
            due("void", x.year(77, 99, 0), 99);
            due("world", x.year(77, 99, 1), 15);
            due("harmed", x.year(77, 99, 2), 0);
        });
        test("A YEAR: wish by wish, 99 of them", () -> {
            for (int n = 2; n <= 6; n++) {
                for (int way = 0; way <= 2; way++) {
                    WishLamp x = lamp(n);
                    for (int t = 0; t < n; t++) {
                        x.worth(1, t, 3 * t % 7 - 3);
                        x.taste(t, 2 - t);
                    }
                    law(x, "|ab");
                    x.set(0, way);
                    x.set(1, 1);
                    x.set(2, way);
                    x.now(1);
                    yearIs(x, power(n), 9999 - n, way == 1 ? 60 : 99);
                }
            }
        });
        test("A YEAR: worth as much as ahead is no harm", () -> {
            WishLamp x = even(2, 0, 0);
            due("harmed", x.year(9999, 99, 2), 0);
            x.now(3);
            due("harmed", x.year(9999, 99, 2), 0);
        });
        test("A YEAR: from NOW, and NOW stays", () -> {
            WishLamp x = lamp(2);
            x.set(2, 0);
            x.now(3);
            wish(x, "&");
            // not b
            due("world", x.year(0, 1, 1), 1);
            due("now", x.told(2), 3);
            due("nothing to be undone", x.told(6), 0);
            due("the pad stays", x.told(0), 1);
        });
    }

    public static void main(String[] args) {
        promise24();
        promise25();
        promise26();
        promise27();
        promise28();
        promise29();
        promise30();
        promise31();
        promise32();
        promise33();
        promise34();
        promise35();
        end();
    }
}
