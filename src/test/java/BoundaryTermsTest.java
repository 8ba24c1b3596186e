/** Boundary cases of terms and rows: the terms of part 3, promises 19 to 23. */
public final class BoundaryTermsTest extends Boundary {
    /** The wish on the pad that says what a term says. */
    private static String asText(int things, int number) {
        StringBuilder text = new StringBuilder("1");
        int rest = number;
        for (int t = things - 1; t >= 0; t--) {
            char letter = (char) ('a' + t);
            if (rest % 3 != 0) text.insert(0, rest % 3 == 1 ? "&" + letter : "&-" + letter);
            rest /= 3;
        }
        return text.toString();
    }

    // ---- promise 19: term

    private static void promise19() {
        test("19: numbers 0 to the last of three to the n", () -> {
            for (int n = 2; n <= 6; n++) {
                WishLamp x = even(n, 0, -1);
                due("nothing said", x.term(0), (1 << n) - 1);
                due("none shall be", x.term(power(n) - 1), 0);
                due("all shall be", x.term((power(n) - 1) / 2), (1 << n) - 1);
                due("one more", x.term(power(n)), OUTSIDE);
                due("-1", x.term(-1), OUTSIDE);
                for (int v : FAR_OFF) due("far off", x.term(v), OUTSIDE);
            }
        });
        test("19: THING a's digit is the highest", () -> {
            for (int n = 2; n <= 6; n++) {
                WishLamp x = even(n, 0, 1);
                due("a", x.term(power(n - 1)), 1);
                due("the last one", x.term(1), 1 << n - 1);
                WishLamp y = even(n, 0, -1);
                due("not a", y.term(2 * power(n - 1)), (1 << n) - 2);
                due("not the last one", y.term(2), (1 << n - 1) - 1);
            }
        });
        test("19: STATE: it is VOID", () -> {
            WishLamp x = law(new WishLamp(), "-b");
            due("b", x.term(9), STATE);
            due("not b", x.term(18), 0);
            due("a, b", x.term(36), STATE);
            x.set(2, 0);
            x.now(2);
            due("nothing: b may not stir", x.term(0), STATE);
            due("not b", x.term(18), 0);
            due("not c: nor may b", x.term(6), STATE);
            law(x, "0");
            for (int t = 0; t < 81; t++) due("never", x.term(t), STATE);
        });
        test("19: OUTSIDE ahead of STATE", () -> {
            WishLamp x = law(new WishLamp(), "0");
            due("81", x.term(81), OUTSIDE);
            due("-1", x.term(-1), OUTSIDE);
        });
        test("A TERM is a WISH: as it would be from the PAD", () -> {
            for (int way = 0; way <= 2; way++) {
                WishLamp x = even(2, 0, -2);
                x.worth(0, 1, 3);
                x.taste(0, 1);
                x.set(0, way);
                for (int now = 0; now < 4; now++) {
                    x.now(now);
                    for (int t = 0; t < 9; t++) due("term " + t, x.term(t), wish(x, asText(2, t)).makes());
                }
            }
            WishLamp y = law(cousins(), "|ac");
            y.set(2, 1);
            y.now(10);
            for (int t = 0; t < 81; t += 4) due("term " + t, y.term(t), wish(y, asText(4, t)).makes());
        });
        test("19: a FAULT on the PAD is nothing to it", () -> {
            WishLamp x = wish(cousins(), "&&");
            due("term", x.term(27), 3);
            due("wording", x.wording(2, 0), 27);
            due("most", x.most(1, 0), 1002);
            due("row", x.row(1, 1, 0), 1002);
            due("lamps", x.lamps(2, 1, 1), 0);
            due("agreed", x.agreed(1), 6);
            due("letters", x.letters(0), 81);
            due("year", x.year(0, 1, 0), 0);
            due("the pad stays", x.told(0), 2);
        });
    }

    // ---- promise 20: wording

    private static void wordingIs(WishLamp x, int goal, int term, int words) {
        due("wording of " + goal, x.wording(goal, 0), term);
        due("words of " + goal, x.wording(goal, 1), words);
    }

    private static void promise20() {
        test("20: goals -99 to 99", () -> {
            WishLamp x = cousins();
            wordingIs(x, -99, 0, 0);
            wordingIs(x, 99, NONE, NONE);
            due("-100", x.wording(-100, 0), OUTSIDE);
            due("100", x.wording(100, 0), OUTSIDE);
            for (int v : FAR_OFF) due("far off", x.wording(v, 1), OUTSIDE);
        });
        test("20: what 0, 1", () -> {
            WishLamp x = cousins();
            due("-1", x.wording(0, -1), OUTSIDE);
            due("2", x.wording(0, 2), OUTSIDE);
            for (int v : FAR_OFF) due("far off", x.wording(0, v), OUTSIDE);
        });
        test("WORDING: so much at least, just so much and one more", () -> {
            WishLamp x = even(6, 0, 9);
            wordingIs(x, 0, 0, 0);
            wordingIs(x, 1, 1, 1);
            wordingIs(x, 9, 1, 1);
            wordingIs(x, 10, 4, 2);
            wordingIs(x, 45, 121, 5);
            wordingIs(x, 46, 364, 6);
            wordingIs(x, 54, 364, 6);
            wordingIs(x, 55, NONE, NONE);
        });
        test("WORDING: goals below 0", () -> {
            WishLamp x = even(6, 0, -9);
            wordingIs(x, -55, 0, 0);
            wordingIs(x, -54, 0, 0);
            wordingIs(x, -53, 2, 1);
            wordingIs(x, -45, 2, 1);
            wordingIs(x, -44, 8, 2);
            wordingIs(x, 0, 728, 6);
            wordingIs(x, 1, NONE, NONE);
        });
        test("WORDING: the fewest WORDS ahead of the least number", () -> {
            WishLamp x = new WishLamp();
            x.worth(0, 0, 2);
            x.worth(0, 2, 1);
            x.worth(0, 3, 1);
            wordingIs(x, 2, 27, 1);
            x.worth(0, 0, 1);
            wordingIs(x, 2, 4, 2);
            wordingIs(x, 1, 1, 1);
        });
        test("WORDING: a TERM that is VOID is none", () -> {
            WishLamp x = law(cousins(), "b");
            wordingIs(x, 2, 27, 1);
            wordingIs(x, 3, NONE, NONE);
            law(x, "0");
            wordingIs(x, -99, NONE, NONE);
        });
        test("20: OUTSIDE, though all are VOID", () -> {
            WishLamp x = law(new WishLamp(), "0");
            due("goal", x.wording(100, 0), OUTSIDE);
            due("what", x.wording(0, 2), OUTSIDE);
        });
    }

    // ---- promise 21: most

    private static void mostIs(WishLamp x, int words, int value, int term) {
        due("most of " + words, x.most(words, 0), value);
        due("term of " + words, x.most(words, 1), term);
    }

    private static void promise21() {
        test("21: WORDS 0 to 6", () -> {
            WishLamp x = even(6, 0, 9);
            int[] terms = {0, 1, 4, 13, 40, 121, 364};
            for (int w = 0; w <= 6; w++) mostIs(x, w, 1000 + 9 * w, terms[w]);
            due("-1", x.most(-1, 0), OUTSIDE);
            due("7", x.most(7, 0), OUTSIDE);
            for (int v : FAR_OFF) due("far off", x.most(v, 1), OUTSIDE);
        });
        test("21: what 0, 1", () -> {
            WishLamp x = new WishLamp();
            due("-1", x.most(0, -1), OUTSIDE);
            due("2", x.most(6, 2), OUTSIDE);
            for (int v : FAR_OFF) due("far off", x.most(1, v), OUTSIDE);
        });
        test("21: more WORDS than THINGS", () -> {
            WishLamp x = even(2, 0, 9);
            for (int w = 2; w <= 6; w++) mostIs(x, w, 1018, 4);
        });
        test("21: the least that it can be", () -> {
            WishLamp x = even(6, 0, -9);
            mostIs(x, 0, 946, 0);
            mostIs(x, 5, 991, 242);
            mostIs(x, 6, 1000, 728);
        });
        test("MOST: fewest WORDS, then the least number", () -> {
            WishLamp x = new WishLamp();
            for (int w = 0; w <= 6; w++) mostIs(x, w, 1000, 0);
            x.worth(0, 0, 1);
            x.worth(0, 1, 1);
            mostIs(x, 1, 1001, 9);
            mostIs(x, 2, 1002, 36);
            mostIs(x, 6, 1002, 36);
        });
        test("21: NONE: all are VOID", () -> {
            WishLamp x = law(new WishLamp(), "0");
            for (int w = 0; w <= 6; w++) mostIs(x, w, NONE, NONE);
        });
        test("21: NONE: all of so many WORDS at most are VOID", () -> {
            WishLamp x = law(cousins(), "&ab");
            x.set(2, 0);
            mostIs(x, 0, NONE, NONE);
            mostIs(x, 1, NONE, NONE);
            mostIs(x, 2, 1002, 36);
        });
        test("21: OUTSIDE, though all are VOID", () -> {
            WishLamp x = law(new WishLamp(), "0");
            due("words", x.most(7, 0), OUTSIDE);
            due("what", x.most(0, 2), OUTSIDE);
        });
    }

    // ---- promise 22: row

    private static void promise22() {
        test("22: k 1 to 3", () -> {
            WishLamp x = new WishLamp();
            for (int k = 1; k <= 3; k++) rowIs(x, k, 1, 1000, 0);
            due("0", x.row(0, 1, 0), OUTSIDE);
            due("-1", x.row(-1, 1, 0), OUTSIDE);
            due("4", x.row(4, 1, 0), OUTSIDE);
            for (int v : FAR_OFF) due("far off", x.row(v, 1, 0), OUTSIDE);
        });
        test("22: WORDS 0 to 6", () -> {
            WishLamp x = even(2, 0, 1);
            rowIs(x, 1, 0, 1000, 0);
            rowIs(x, 1, 6, 1002, 4);
            due("-1", x.row(1, -1, 0), OUTSIDE);
            due("7", x.row(1, 7, 0), OUTSIDE);
            for (int v : FAR_OFF) due("far off", x.row(1, v, 1), OUTSIDE);
        });
        test("22: what 0, 1", () -> {
            WishLamp x = new WishLamp();
            due("-1", x.row(1, 0, -1), OUTSIDE);
            due("2", x.row(1, 0, 2), OUTSIDE);
            for (int v : FAR_OFF) due("far off", x.row(1, 0, v), OUTSIDE);
        });
        test("ROW of one is MOST by WAY 0, whatever the WAY", () -> {
            WishLamp x = law(cousins(), "|bc");
            x.now(12);
            for (int still = 0; still <= 4; still++) {
                x.set(2, still);
                for (int w = 0; w <= 4; w++) {
                    x.set(0, 0);
                    int value = x.most(w, 0);
                    int term = x.most(w, 1);
                    x.set(0, 2);
                    rowIs(x, 1, w, value == NONE ? 1000 : value, term);
                }
            }
        });
        test("ROW: no WORDS: THE SPIRIT alone goes on", () -> {
            WishLamp x = even(4, 0, -9);
            x.set(2, 1);
            rowIs(x, 1, 0, 991, 0);
            rowIs(x, 2, 0, 982, 0);
            rowIs(x, 3, 0, 973, 0);
            x.set(2, 0);
            rowIs(x, 3, 0, 1000, 0);
            x.set(2, 6);
            rowIs(x, 3, 0, 964, 0);
        });
        test("ROW: what is worst in the end, though it is better first", () -> {
            WishLamp x = law(lamp(2), "|ab");
            x.worth(0, 0, 2);
            x.worth(0, 1, 1);
            x.set(2, 1);
            x.now(1);
            // from a to b it must go through both
            for (int way = 0; way <= 2; way++) {
                x.set(0, way);
                rowIs(x, 1, 0, 1002, 0);
                rowIs(x, 2, 0, 1001, 0);
                rowIs(x, 3, 0, 1001, 0);
            }
        });
        test("ROW: one WORD against one that stirs", () -> {
            WishLamp x = even(4, 0, -9);
            x.set(2, 1);
            for (int k = 1; k <= 3; k++) due("one stirs", x.row(k, 1, 0), 991);
            due("all are said", x.row(1, 4, 0), 1000);
            due("the least number of them", x.row(1, 4, 1), 80);
            due("one is not", x.row(1, 3, 0), 991);
        });
        test("ROW: the least and the most that it can be", () -> {
            rowIs(even(6, 0, 9), 3, 6, 1054, 0);
            rowIs(even(6, 0, 9), 1, 6, 1054, 364);
            rowIs(even(6, 0, -9), 3, 0, 946, 0);
        });
        test("ROW: if all TERMS are VOID, nothing happens", () -> {
            WishLamp x = law(cousins(), "0");
            x.now(3);
            for (int k = 1; k <= 3; k++) {
                for (int w = 0; w <= 6; w += 3) rowIs(x, k, w, 1002, NONE);
            }
            due("now stays", x.told(2), 3);
        });
        test("ROW: all of so many WORDS at most are VOID", () -> {
            WishLamp x = law(cousins(), "&cd");
            x.set(2, 0);
            x.now(1);
            for (int k = 1; k <= 3; k++) rowIs(x, k, 1, 1005, NONE);
            rowIs(x, 1, 2, 1005, 4);
            x.now(2);
            rowIs(x, 1, 1, 997, NONE);
            rowIs(x, 1, 2, 997, 4);
            rowIs(x, 2, 2, 1005, 4);
        });
        test("ROW: The TERM of no WORDS is a WISH, too", () -> {
            WishLamp x = cousins();
            x.set(2, 0);
            x.now(1);
            rowIs(x, 1, 4, 1005, 0);
            rowIs(x, 3, 4, 1005, 0);
        });
        test("ROW: the first TERM: fewest WORDS, then the least number", () -> {
            WishLamp x = even(4, 0, 1);
            x.set(2, 0);
            rowIs(x, 1, 1, 1001, 1);
            rowIs(x, 2, 1, 1002, 1);
            rowIs(x, 2, 2, 1004, 4);
            rowIs(x, 2, 3, 1004, 1);
            rowIs(x, 2, 4, 1004, 0);
            rowIs(x, 3, 2, 1004, 0);
        });
        test("22: a row changes nothing", () -> {
            WishLamp x = full();
            int[] before = allTold(x);
            x.row(3, 4, 0);
            x.row(2, 2, 1);
            for (int i = 0; i < 70; i++) due("told(" + i + ")", x.told(i), before[i]);
        });
    }

    // ---- promise 23: lamps

    private static void promise23() {
        test("23: UNKNOWN: the second COUSIN", () -> {
            WishLamp x = new WishLamp();
            lampsAre(x, 3, 0, 1000, 0);
            due("-1", x.lamps(-1, 0, 0), UNKNOWN);
            due("4", x.lamps(4, 0, 0), UNKNOWN);
            for (int v : FAR_OFF) due("far off", x.lamps(v, 0, 0), UNKNOWN);
        });
        test("23: UNKNOWN: also THE WISHER", () -> {
            WishLamp x = new WishLamp();
            for (int wisher = 0; wisher < 4; wisher++) {
                x.set(1, wisher);
                for (int c = 0; c < 4; c++) due("lamps", x.lamps(c, 0, 0), c == wisher ? UNKNOWN : 1000);
            }
        });
        test("23: WORDS 0 to 6", () -> {
            WishLamp x = new WishLamp();
            lampsAre(x, 1, 6, 1000, 0);
            due("-1", x.lamps(1, -1, 0), OUTSIDE);
            due("7", x.lamps(1, 7, 0), OUTSIDE);
            for (int v : FAR_OFF) due("far off", x.lamps(1, v, 0), OUTSIDE);
        });
        test("23: what 0, 1", () -> {
            WishLamp x = new WishLamp();
            due("-1", x.lamps(1, 0, -1), OUTSIDE);
            due("2", x.lamps(1, 0, 2), OUTSIDE);
            for (int v : FAR_OFF) due("far off", x.lamps(1, 0, v), OUTSIDE);
        });
        test("23: UNKNOWN ahead of OUTSIDE", () -> {
            WishLamp x = new WishLamp();
            due("4", x.lamps(4, 7, 2), UNKNOWN);
            due("-1", x.lamps(-1, -1, 0), UNKNOWN);
            due("the wisher", x.lamps(0, 7, 0), UNKNOWN);
            due("the wisher", x.lamps(0, 0, 2), UNKNOWN);
        });
        test("LAMPS: all TERMS are VOID", () -> {
            WishLamp x = law(cousins(), "0");
            x.now(3);
            for (int w = 0; w <= 6; w++) lampsAre(x, 1, w, 1002, NONE);
        });
        test("LAMPS: all of so many WORDS at most are VOID", () -> {
            WishLamp x = law(cousins(), "&cd");
            x.set(2, 0);
            x.now(1);
            lampsAre(x, 1, 1, 1005, NONE);
            lampsAre(x, 1, 2, 1000, 4);
            lampsAre(x, 2, 2, 1005, 4);
        });
        test("LAMPS: of several WORLDS the least", () -> {
            WishLamp x = cousins();
            lampsAre(x, 3, 0, 1000, 0);
            lampsAre(x, 3, 4, 1000, 0);
            lampsAre(law(x, "b"), 3, 4, 997, 0);
        });
        test("LAMPS: the second one makes the WORLD of nothing, and nothing behind it is better", () -> {
            WishLamp x = cousins();
            x.set(2, 0);
            x.now(1);
            for (int w = 1; w <= 4; w++) lampsAre(x, 1, w, 1000, 0);
        });
        test("LAMPS: The TERM of no WORDS is a WISH, too: something happens by it", () -> {
            WishLamp x = new WishLamp();
            x.worth(0, 2, 5);
            x.set(2, 1);
            x.now(12);
            // left to itself c would stay: the second one's wish takes d away, as 4 is less than 8
            for (int way = 0; way <= 2; way++) {
                x.set(0, way);
                lampsAre(x, 1, 0, 1000, 0);
            }
            x.set(2, 0);
            lampsAre(x, 1, 0, 1005, 0);
        });
        test("LAMPS: THE SPIRIT then making what is worst for him", () -> {
            WishLamp x = cousins();
            x.worth(2, 0, 1);
            x.worth(2, 1, -1);
            // b; not b (as good as a, and less); a, not b
            lampsAre(x, 2, 0, 997, 0);
            lampsAre(x, 2, 1, 1000, 0);
            lampsAre(x, 2, 2, 1005, 0);
        });
        test("LAMPS: of several TERMS by fewest WORDS", () -> {
            WishLamp x = cousins();
            x.set(2, 0);
            lampsAre(x, 3, 1, 1005, 27);
            x.worth(3, 0, 1);
            x.worth(3, 1, -1);
            x.worth(0, 1, 3);
            lampsAre(x, 3, 2, 1005, 0);
        });
        test("LAMPS: then the least number", () -> {
            WishLamp x = new WishLamp();
            x.set(2, 0);
            x.worth(1, 2, 1);
            x.worth(1, 3, 1);
            x.worth(0, 3, 2);
            x.worth(0, 2, -2);
            lampsAre(x, 1, 1, 1002, 0);
        });
        test("LAMPS: the least and the most that it can be", () -> {
            WishLamp x = even(6, 0, 9);
            for (int t = 0; t < 6; t++) x.worth(1, t, 9);
            lampsAre(x, 1, 6, 1054, 0);
            WishLamp y = even(6, 0, -9);
            for (int t = 0; t < 6; t++) y.worth(1, t, 9);
            lampsAre(y, 1, 6, 946, 0);
        });
        test("23: lamps change nothing", () -> {
            WishLamp x = full();
            int[] before = allTold(x);
            x.lamps(0, 4, 0);
            x.lamps(3, 2, 1);
            for (int i = 0; i < 70; i++) due("told(" + i + ")", x.told(i), before[i]);
        });
    }

    public static void main(String[] args) {
        promise19();
        promise20();
        promise21();
        promise22();
        promise23();
        end();
    }
}
