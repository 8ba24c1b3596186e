/** Boundary cases of images and of what is told: promises 36 to 38. */
public final class BoundaryImagesTest extends Boundary {
    // ---- promise 36: image

    private static void promise36() {
        test("36: IMAGES 0, 1", () -> {
            WishLamp x = new WishLamp();
            due("0", x.image(0), 1);
            due("1", x.image(1), 1);
            due("-1", x.image(-1), OUTSIDE);
            due("2", x.image(2), OUTSIDE);
            for (int v : FAR_OFF) due("far off", x.image(v), OUTSIDE);
        });
        test("36: a refused one keeps nothing", () -> {
            WishLamp x = new WishLamp();
            x.image(2);
            x.image(-1);
            due("restore(0)", x.restore(0), STATE);
            due("restore(1)", x.restore(1), STATE);
        });
        test("36: one is not the other one", () -> {
            WishLamp x = new WishLamp();
            x.now(3);
            x.image(1);
            due("restore(0)", x.restore(0), STATE);
            x.now(5);
            x.image(0);
            x.now(7);
            x.restore(1);
            due("1", x.told(2), 3);
            x.restore(0);
            due("0", x.told(2), 5);
        });
        test("36: the same one again, over the old one", () -> {
            WishLamp x = new WishLamp();
            x.now(3);
            x.image(0);
            x.now(5);
            due("again", x.image(0), 1);
            x.now(7);
            x.restore(0);
            due("the later one", x.told(2), 5);
        });
        test("36: nothing changes by it", () -> {
            WishLamp x = full();
            int[] before = allTold(x);
            x.image(0);
            x.image(1);
            for (int i = 0; i < 70; i++) due("told(" + i + ")", x.told(i), before[i]);
            due("undo", x.undo(), 0);
        });
        test("36: of a new object", () -> {
            WishLamp x = new WishLamp();
            x.image(0);
            x.things(6);
            x.now(63);
            due("restore", x.restore(0), 1);
            asAtFirst(x, 4);
        });
        test("36: All but the PAD: it may have a FAULT", () -> {
            WishLamp x = wish(new WishLamp(), times(40, "!"));
            due("image", x.image(0), 1);
            due("the pad stays", x.told(0), 40);
        });
    }

    // ---- promise 37: restore

    private static void promise37() {
        test("37: IMAGES 0, 1", () -> {
            WishLamp x = new WishLamp();
            x.image(0);
            x.image(1);
            due("0", x.restore(0), 1);
            due("1", x.restore(1), 1);
            due("-1", x.restore(-1), OUTSIDE);
            due("2", x.restore(2), OUTSIDE);
            for (int v : FAR_OFF) due("far off", x.restore(v), OUTSIDE);
        });
        test("37: STATE: it was not", () -> {
            WishLamp x = full();
            int[] before = allTold(x);
            due("0", x.restore(0), STATE);
            due("1", x.restore(1), STATE);
            for (int i = 0; i < 70; i++) due("told(" + i + ")", x.told(i), before[i]);
            x.image(0);
            due("0", x.restore(0), 1);
            due("1", x.restore(1), STATE);
        });
        test("37: It is as it was when it was kept", () -> {
            WishLamp x = full();
            int[] before = allTold(x);
            int fits = x.fit(-1);
            int letters = x.letters(0);
            x.image(1);
            x.things(6);
            x.taste(5, 9);
            x.worth(3, 5, 9);
            x.now(63);
            law(x, "0");
            due("restore", x.restore(1), 1);
            for (int i = 1; i < 70; i++) due("told(" + i + ")", x.told(i), before[i]);
            due("fit", x.fit(-1), fits);
            due("letters", x.letters(0), letters);
            due("the last term", x.term(80) == OUTSIDE ? 1 : 0, 0);
            due("no term more", x.term(81), OUTSIDE);
            due("undo", x.undo(), 0);
            due("no more", x.undo(), STATE);
        });
        test("37: but the PAD", () -> {
            WishLamp x = wish(new WishLamp(), "&a-b");
            x.image(0);
            wish(x, "|cd-");
            x.restore(0);
            due("as it is", x.told(0), 4);
            due("as it is", x.fault(), 3);
            x.wipe();
            x.restore(0);
            due("empty", x.told(0), 0);
        });
        test("37: a letter of the PAD that there is again", () -> {
            WishLamp x = lamp(6);
            x.image(0);
            x.things(2);
            wish(x, "f");
            due("no f", x.fault(), 0);
            x.restore(0);
            due("f", x.fault(), NONE);
        });
        test("37: again and again; what comes later is nothing to the IMAGE", () -> {
            WishLamp x = full();
            int[] before = allTold(x);
            x.image(0);
            for (int round = 0; round < 3; round++) {
                x.undo();
                x.worth(0, 0, round);
                x.taste(0, -round);
                x.sixths(0, 0, 0, 6);
                x.forget();
                x.came(0, 0);
                wish(x, "b").grant();
                law(x, "1");
                due("restore", x.restore(0), 1);
                for (int i = 1; i < 70; i++) due("told(" + i + ")", x.told(i), before[i]);
            }
        });
        test("37: IMAGES stay when one is restored", () -> {
            WishLamp x = new WishLamp();
            x.image(0);
            x.now(9);
            x.image(1);
            x.restore(0);
            due("1 is there", x.restore(1), 1);
            due("now", x.told(2), 9);
            due("0 is there", x.restore(0), 1);
            due("now", x.told(2), 0);
        });
        test("37: what can be UNDONE, all 16", () -> {
            WishLamp x = lamp(5);
            for (int i = 1; i <= 17; i++) wish(x, just(5, i)).grant();
            x.image(0);
            x.now(0);
            wish(x, just(5, 31)).grant();
            x.restore(0);
            due("how many", x.told(6), 16);
            for (int i = 16; i >= 1; i--) due("undo", x.undo(), i);
            due("nothing", x.undo(), STATE);
        });
        test("37: SIGHTS: from where, to where", () -> {
            WishLamp x = lamp(2);
            x.set(2, 0);
            x.came(0, 1);
            x.image(0);
            x.forget();
            x.came(0, 2);
            x.restore(0);
            due("a", x.letters(1), 3);
            x.forget();
            x.came(3, 1);
            x.restore(0);
            due("a", x.letters(1), 3);
            due("a; a, not b", x.letters(0), 2);
        });
        test("37: SIGHTS, all 12", () -> {
            WishLamp x = wish(lamp(2), "1");
            x.set(2, 0);
            for (int i = 0; i < 6; i++) x.came(i < 5 ? 0 : 2, 3);
            x.set(2, 6);
            for (int i = 0; i < 6; i++) x.picked(2);
            x.image(1);
            x.forget();
            for (int i = 0; i < 6; i++) x.came(3, 3);
            x.picked(0);
            x.restore(1);
            due("picked", x.told(7), 6);
            due("came", x.told(8), 6);
            due("full", x.picked(2), FULL);
            due("full", x.came(0, 0), FULL);
            due("fit", x.fit(-1), 2);
            x.set(2, 0);
            due("letters", x.letters(0), 1);
            due("a, b", x.letters(1), 4);
        });
    }

    // ---- promise 38: told

    /** A lamp in which each number that is told is one of its own, and those numbers. */
    private static int[] fill(WishLamp x, int n) {
        int[] want = new int[72];
        java.util.Arrays.fill(want, OUTSIDE);
        for (int t = 0; t < n; t++) {
            x.taste(t, 9 - t);
            want[10 + t] = 1009 - t;
            for (int c = 0; c < 4; c++) {
                x.worth(c, t, c - t - 3);
                want[30 + 10 * c + t] = 997 + c - t;
            }
        }
        x.sixths(0, 1, 2, 3);
        for (int c = 0; c < 4; c++) want[20 + c] = c;
        law(x, "a");
        x.set(0, 2);
        x.set(1, 3);
        x.set(2, 5);
        for (int i = 0; i < 3; i++) wish(x, "&ab").grant();
        wish(x, "|a-b");
        x.picked(1);
        for (int i = 0; i < 6; i++) x.came(1, 2);
        int[] plain = {4, n, 3, 2, 3, 5, 3, 1, 6, 1 << n - 1};
        System.arraycopy(plain, 0, want, 0, 10);
        return want;
    }

    private static void promise38() {
        for (int n = 2; n <= 6; n++) {
            int things = n;
            test("38: each number, OUTSIDE also of THINGS that there are not: " + n, () -> {
                WishLamp x = lamp(things);
                int[] want = fill(x, things);
                for (int i = 0; i < 72; i++) due("told(" + i + ")", x.told(i), want[i]);
            });
        }
        test("38: OUTSIDE", () -> {
            WishLamp x = lamp(6);
            for (int v : new int[] {-1, -10, 16, 19, 24, 26, 29, 36, 39, 46, 49, 56, 59, 66, 69, 70, 75, 79, 130, 256}) {
                due("told(" + v + ")", x.told(v), OUTSIDE);
            }
            for (int v : FAR_OFF) due("far off", x.told(v), OUTSIDE);
        });
        test("38: signs, 0 to 40", () -> {
            WishLamp x = new WishLamp();
            due("none", x.told(0), 0);
            wish(x, times(41, "z"));
            due("full", x.told(0), 40);
        });
        test("38: how many can be UNDONE, 0 to 16", () -> {
            WishLamp x = new WishLamp();
            for (int i = 0; i <= 18; i++) {
                due("told(6)", x.told(6), Math.min(i, 16));
                wish(x, "1").grant();
            }
        });
        test("38: how many WORLDS keep THE LAW, 0 to 64", () -> {
            WishLamp x = lamp(6);
            due("all", x.told(9), 64);
            due("none", law(x, "0").told(9), 0);
            due("one", law(x, "&a&b&c&d&ef").told(9), 1);
            due("all but one", law(x, "|a|b|c|d|ef").told(9), 63);
            due("all", law(x, "-0").told(9), 64);
        });
        test("38: TASTES, WORTH at their ends, and 1000", () -> {
            WishLamp x = lamp(6);
            x.taste(5, -9);
            x.worth(3, 5, 9);
            due("taste", x.told(15), 991);
            due("worth", x.told(65), 1009);
            x.taste(5, 9);
            x.worth(3, 5, -9);
            due("taste", x.told(15), 1009);
            due("worth", x.told(65), 991);
        });
    }

    public static void main(String[] args) {
        promise36();
        promise37();
        promise38();
        end();
    }
}
