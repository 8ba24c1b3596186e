/** Boundary cases of worlds and clauses: the terms of part 1, promises 1 to 11. */
public final class BoundaryWorldsTest extends Boundary {
    // ---- promise 1: a new object

    private static void promise1() {
        test("1: Four THINGS", () -> {
            WishLamp x = new WishLamp();
            due("told(1)", x.told(1), 4);
            due("the last thing", x.told(13), 1000);
            due("no fifth one", x.told(14), OUTSIDE);
            due("the last world", x.now(15), 0);
            due("no world more", x.now(16), OUTSIDE);
            due("terms", x.term(80), 0);
            due("no term more", x.term(81), OUTSIDE);
            due("d", wish(x, "d").fault(), NONE);
            due("no e", wish(x, "e").fault(), 0);
        });
        test("1: none is so", () -> {
            WishLamp x = new WishLamp();
            due("told(2)", x.told(2), 0);
            x.set(2, 0);
            due("~a&~b..", wish(x, "1").kept(0), 0);
            due("told(now)", x.now(0), 0);
        });
        test("WORTH 0 at first", () -> {
            WishLamp x = new WishLamp();
            for (int c = 0; c < 4; c++) {
                for (int t = 0; t < 4; t++) due("told", x.told(30 + 10 * c + t), 1000);
                due("worthOf", x.worthOf(c, 15), 1000);
            }
        });
        test("TASTE 0 at first", () -> {
            WishLamp x = new WishLamp();
            for (int t = 0; t < 4; t++) due("told", x.told(10 + t), 1000);
            x.set(0, 1);
            due("all is one to it: the least world", wish(x, "1").makes(), 0);
        });
        test("THE WISHER is COUSIN 0 at first", () -> {
            WishLamp x = new WishLamp();
            due("told(4)", x.told(4), 0);
            x.worth(0, 0, -1);
            x.worth(1, 1, -1);
            due("the worst for 0", wish(x, "1").makes(), 1);
        });
        test("WAY 0 at first", () -> {
            WishLamp x = cousins();
            due("told(3)", x.told(3), 0);
            x.taste(3, 9);
            due("the worst for the wisher", wish(x, "1").makes(), 2);
        });
        test("STILL 6 at first", () -> {
            WishLamp x = new WishLamp();
            due("told(5)", x.told(5), 6);
            due("all may stir", wish(x, "1").kept(-1), 16);
        });
        test("THE LAW at first always", () -> {
            WishLamp x = new WishLamp();
            due("told(9)", x.told(9), 16);
            due("the first world", wish(x, "1").kept(0), 0);
            due("the last world", x.kept(15), 15);
        });
        test("SIXTHS: 6 of COUSIN 0 at first", () -> {
            WishLamp x = new WishLamp();
            int[] want = {6, 0, 0, 0};
            for (int c = 0; c < 4; c++) due("told", x.told(20 + c), want[c]);
        });
        test("1: the PAD is empty, no SIGHTS, nothing UNDONE, no IMAGES", () -> {
            WishLamp x = new WishLamp();
            due("told(0)", x.told(0), 0);
            due("wipe", x.wipe(), 0);
            due("fault", x.fault(), 0);
            due("told(6)", x.told(6), 0);
            due("undo", x.undo(), STATE);
            due("told(7)", x.told(7), 0);
            due("told(8)", x.told(8), 0);
            due("forget", x.forget(), 0);
            due("restore(0)", x.restore(0), STATE);
            due("restore(1)", x.restore(1), STATE);
        });
        test("1: objects are apart", () -> {
            WishLamp x = new WishLamp();
            WishLamp y = new WishLamp();
            x.worth(0, 0, 5);
            x.say('a');
            x.image(0);
            x.now(3);
            due("told(30)", y.told(30), 1000);
            due("told(0)", y.told(0), 0);
            due("restore", y.restore(0), STATE);
            due("told(2)", y.told(2), 0);
        });
        test("at most 512 calls: the 512th answers still", () -> {
            WishLamp x = new WishLamp();
            for (int i = 1; i <= 500; i++) x.say('a' + i % 4);
            due("501", x.wipe(), 40);
            for (int i = 502; i <= 510; i++) due("now", x.now(i % 16), i == 502 ? 0 : (i - 1) % 16);
            due("511", x.told(2), 14);
            due("512", x.now(3), 14);
        });
    }

    // ---- promise 2: things

    private static void promise2() {
        test("2: n 2 to 6, the least and the most", () -> {
            WishLamp x = new WishLamp();
            due("things(2)", x.things(2), 4);
            due("things(6)", x.things(6), 2);
            due("told", x.told(1), 6);
        });
        test("2: OUTSIDE below 2", () -> {
            WishLamp x = new WishLamp();
            for (int n : new int[] {1, 0, -1, -4, MIN}) due("things(" + n + ")", x.things(n), OUTSIDE);
            due("told", x.told(1), 4);
        });
        test("2: OUTSIDE above 6", () -> {
            WishLamp x = new WishLamp();
            for (int n : new int[] {7, 8, 32, 36, 260, MAX}) due("things(" + n + ")", x.things(n), OUTSIDE);
            due("told", x.told(1), 4);
        });
        test("2: which it was", () -> {
            WishLamp x = new WishLamp();
            int was = 4;
            for (int n : new int[] {2, 3, 4, 5, 6, 6, 2, 2}) {
                due("things(" + n + ")", x.things(n), was);
                was = n;
            }
        });
        test("2: as many worlds, letters, terms as there are things", () -> {
            for (int n = 2; n <= 6; n++) {
                WishLamp x = lamp(n);
                due("worlds keep the law", x.told(9), 1 << n);
                due("the last letter", wish(x, "" + (char) ('a' + n - 1)).fault(), NONE);
                due("one more", wish(x, "" + (char) ('a' + n)).fault(), 0);
                due("all worlds", wish(x, "1").kept(-1), 1 << n);
                due("the last one", x.kept((1 << n) - 1), (1 << n) - 1);
                due("the last term", x.term(power(n) - 1), 0);
                due("one more", x.term(power(n)), OUTSIDE);
                due("tastes", x.fit(-1), power(n));
                due("terms", x.letters(0), power(n));
            }
        });
        for (int n = 2; n <= 6; n++) {
            int things = n;
            test("2: All else is as at first, " + n, () -> {
                WishLamp x = full();
                due("things", x.things(things), 4);
                asAtFirst(x, things);
            });
        }
        test("2: things that go leave nothing behind", () -> {
            WishLamp x = lamp(6);
            for (int t = 0; t < 6; t++) {
                x.taste(t, 7);
                for (int c = 0; c < 4; c++) x.worth(c, t, 8);
            }
            x.now(63);
            x.things(2);
            due("worth of all", x.worthOf(2, 3), 1000);
            x.things(6);
            due("worth of all", x.worthOf(2, 63), 1000);
            for (int t = 0; t < 6; t++) due("taste", x.told(10 + t), 1000);
            due("now", x.told(2), 0);
        });
        test("2: but the PAD", () -> {
            WishLamp x = wish(new WishLamp(), "&a-b");
            x.things(2);
            due("signs", x.told(0), 4);
            due("fault", x.fault(), NONE);
            due("the same wish", x.kept(-1), 1);
            due("the same wish", x.kept(0), 1);
            wish(x, times(39, "-") + "b");
            x.things(3);
            due("full", x.say('a'), FULL);
            due("wipe", x.wipe(), 40);
        });
        test("2: a letter of the PAD that there is no longer, and again", () -> {
            WishLamp x = wish(new WishLamp(), "|cd");
            x.things(3);
            due("no d", x.fault(), 2);
            x.things(2);
            due("no c", x.fault(), 1);
            x.things(4);
            due("both", x.fault(), NONE);
        });
        test("2: but the IMAGES", () -> {
            WishLamp x = cousins();
            x.now(9);
            x.image(0);
            x.things(6);
            x.now(33);
            x.image(1);
            x.things(2);
            due("restore(0)", x.restore(0), 1);
            due("things", x.told(1), 4);
            due("now", x.told(2), 9);
            due("worth", x.told(30), 1005);
            due("restore(1)", x.restore(1), 1);
            due("things", x.told(1), 6);
            due("now", x.told(2), 33);
        });
        test("2: an IMAGE that was not kept is not there after it, too", () -> {
            WishLamp x = new WishLamp();
            x.things(3);
            due("restore(0)", x.restore(0), STATE);
            due("restore(1)", x.restore(1), STATE);
        });
        test("2: the same number again, too, begins anew", () -> {
            WishLamp x = full();
            due("things(4)", x.things(4), 4);
            asAtFirst(x, 4);
        });
    }

    // ---- promises 3, 4: worth, taste

    private static void promise3() {
        test("3: COUSINS 0 to 3", () -> {
            WishLamp x = new WishLamp();
            due("0", x.worth(0, 0, 1), 1000);
            due("3", x.worth(3, 0, 1), 1000);
            due("-1", x.worth(-1, 0, 1), UNKNOWN);
            due("4", x.worth(4, 0, 1), UNKNOWN);
            for (int v : FAR_OFF) due("far off", x.worth(v, 0, 1), UNKNOWN);
        });
        test("3: THINGS 0 to n less 1", () -> {
            for (int n = 2; n <= 6; n++) {
                WishLamp x = lamp(n);
                due("0", x.worth(1, 0, 1), 1000);
                due("last", x.worth(1, n - 1, 1), 1000);
                due("-1", x.worth(1, -1, 1), UNKNOWN);
                due("n", x.worth(1, n, 1), UNKNOWN);
                for (int v : FAR_OFF) due("far off", x.worth(1, v, 1), UNKNOWN);
            }
        });
        test("3: a thing that is not, of a cousin ahead of others, is not the next cousin's", () -> {
            WishLamp x = new WishLamp();
            due("worth(0, 6, 5)", x.worth(0, 6, 5), UNKNOWN);
            due("worth(1, -6, 5)", x.worth(1, -6, 5), UNKNOWN);
            due("told", x.told(40), 1000);
            due("told", x.told(30), 1000);
        });
        test("3: -9 to 9", () -> {
            WishLamp x = new WishLamp();
            due("9", x.worth(0, 0, 9), 1000);
            due("10", x.worth(0, 0, 10), OUTSIDE);
            due("told", x.told(30), 1009);
            due("-9", x.worth(0, 0, -9), 1009);
            due("-10", x.worth(0, 0, -10), OUTSIDE);
            due("told", x.told(30), 991);
            for (int v : FAR_OFF) due("far off", x.worth(0, 0, v), OUTSIDE);
            due("0", x.worth(0, 0, 0), 991);
            due("told", x.told(30), 1000);
        });
        test("3: UNKNOWN ahead of OUTSIDE", () -> {
            WishLamp x = new WishLamp();
            due("cousin and v", x.worth(4, 0, 10), UNKNOWN);
            due("thing and v", x.worth(0, 4, -10), UNKNOWN);
            due("all", x.worth(-1, -1, 99), UNKNOWN);
        });
        test("3: each cousin's each thing has its own", () -> {
            WishLamp x = lamp(6);
            for (int i = 0; i < 24; i++) due("worth", x.worth(i / 6, i % 6, i % 19 - 9), 1000);
            for (int i = 0; i < 24; i++) due("told", x.told(30 + i / 6 * 10 + i % 6), 991 + i % 19);
        });
        test("WORTH of a THING, if it is so: of one that is not, nothing", () -> {
            WishLamp x = even(6, 1, 9);
            due("none", x.worthOf(1, 0), 1000);
            for (int t = 0; t < 6; t++) due("one", x.worthOf(1, 1 << t), 1009);
            due("all", x.worthOf(1, 63), 1054);
            due("to another one", x.worthOf(0, 63), 1000);
        });
    }

    private static void promise4() {
        test("4: THINGS 0 to n less 1", () -> {
            for (int n = 2; n <= 6; n++) {
                WishLamp x = lamp(n);
                due("0", x.taste(0, 1), 1000);
                due("last", x.taste(n - 1, 1), 1000);
                due("-1", x.taste(-1, 1), UNKNOWN);
                due("n", x.taste(n, 1), UNKNOWN);
                for (int v : FAR_OFF) due("far off", x.taste(v, 1), UNKNOWN);
            }
        });
        test("4: -9 to 9", () -> {
            WishLamp x = new WishLamp();
            due("9", x.taste(3, 9), 1000);
            due("10", x.taste(3, 10), OUTSIDE);
            due("told", x.told(13), 1009);
            due("-9", x.taste(3, -9), 1009);
            due("-10", x.taste(3, -10), OUTSIDE);
            due("told", x.told(13), 991);
            for (int v : FAR_OFF) due("far off", x.taste(3, v), OUTSIDE);
            due("which it was", x.taste(3, 0), 991);
        });
        test("4: UNKNOWN ahead of OUTSIDE", () -> {
            WishLamp x = new WishLamp();
            due("thing and v", x.taste(4, 10), UNKNOWN);
            due("thing and v", x.taste(-1, -10), UNKNOWN);
        });
        test("4: each thing has its own", () -> {
            WishLamp x = lamp(6);
            for (int t = 0; t < 6; t++) x.taste(t, t - 3);
            for (int t = 0; t < 6; t++) due("told", x.told(10 + t), 997 + t);
        });
    }

    // ---- promises 5, 6, 7: set, now, worthOf

    private static void promise5() {
        String[] names = {"WAY 0 to 2", "THE WISHER 0 to 3", "STILL 0 to 6"};
        int[] first = {0, 0, 6};
        int[] last = {2, 3, 6};
        for (int i = 0; i < 3; i++) {
            int which = i;
            test("5: " + names[i], () -> {
                WishLamp x = new WishLamp();
                due("at first", x.set(which, 0), first[which]);
                for (int v = 0; v <= last[which]; v++) due("set", x.set(which, v), Math.max(v - 1, 0));
                due("one more", x.set(which, last[which] + 1), OUTSIDE);
                due("it stays", x.told(3 + which), last[which]);
                due("one less than none", x.set(which, -1), OUTSIDE);
                for (int v : FAR_OFF) due("far off", x.set(which, v), OUTSIDE);
                due("it stays", x.told(3 + which), last[which]);
                for (int other = 0; other < 3; other++) {
                    if (other != which) due("the others stay", x.told(3 + other), first[other]);
                }
            });
        }
        test("5: which = 0, 1, 2 alone", () -> {
            WishLamp x = new WishLamp();
            due("-1", x.set(-1, 0), OUTSIDE);
            due("3", x.set(3, 0), OUTSIDE);
            for (int v : FAR_OFF) due("far off", x.set(v, 0), OUTSIDE);
            due("way", x.told(3), 0);
            due("wisher", x.told(4), 0);
            due("still", x.told(5), 6);
        });
        test("5: THE WISHER that there is not is OUTSIDE, not UNKNOWN", () -> due("set(1, 4)", new WishLamp().set(1, 4), OUTSIDE));
        test("5: STILL may be more than there are things", () -> {
            WishLamp x = lamp(2);
            due("set", x.set(2, 5), 6);
            due("told", x.told(5), 5);
            due("all may stir", wish(x, "1").kept(-1), 4);
        });
    }

    private static void promise6() {
        test("6: WORLDS as bits of n THINGS", () -> {
            for (int n = 2; n <= 6; n++) {
                WishLamp x = lamp(n);
                int last = (1 << n) - 1;
                due("last", x.now(last), 0);
                due("one more", x.now(last + 1), OUTSIDE);
                due("-1", x.now(-1), OUTSIDE);
                for (int v : FAR_OFF) due("far off", x.now(v), OUTSIDE);
                due("64", x.now(64), OUTSIDE);
                due("it stays", x.told(2), last);
                due("0", x.now(0), last);
            }
        });
        test("6: nothing is left to be UNDONE", () -> {
            WishLamp x = new WishLamp();
            for (int i = 0; i < 17; i++) wish(x, "1").grant();
            due("to be undone", x.told(6), 16);
            due("now", x.now(5), 0);
            due("nothing", x.told(6), 0);
            due("undo", x.undo(), STATE);
            due("now stays", x.told(2), 5);
        });
        test("6: nothing is left to be UNDONE, though it is the same WORLD", () -> {
            WishLamp x = new WishLamp();
            wish(x, "a").grant();
            due("now(1)", x.now(1), 1);
            due("undo", x.undo(), STATE);
        });
        test("6: a refused one leaves what can be UNDONE", () -> {
            WishLamp x = new WishLamp();
            x.now(6);
            wish(x, "&a&-b-c").grant();
            due("refused", x.now(16), OUTSIDE);
            due("undo", x.undo(), 6);
        });
        test("THE LAW: NOW need not keep it", () -> {
            WishLamp x = law(new WishLamp(), "a");
            due("told(2)", x.told(2), 0);
            due("now(2)", x.now(2), 0);
            law(x, "0");
            due("now(3)", x.now(3), 2);
            due("told(2)", x.told(2), 3);
        });
    }

    private static void promise7() {
        test("7: COUSINS 0 to 3", () -> {
            WishLamp x = even(4, 3, 2);
            due("3", x.worthOf(3, 15), 1008);
            due("0", x.worthOf(0, 15), 1000);
            due("-1", x.worthOf(-1, 0), UNKNOWN);
            due("4", x.worthOf(4, 0), UNKNOWN);
            for (int v : FAR_OFF) due("far off", x.worthOf(v, 0), UNKNOWN);
        });
        test("7: WORLDS as bits of n THINGS", () -> {
            for (int n = 2; n <= 6; n++) {
                WishLamp x = even(n, 2, 1);
                due("none", x.worthOf(2, 0), 1000);
                due("last", x.worthOf(2, (1 << n) - 1), 1000 + n);
                due("one more", x.worthOf(2, 1 << n), OUTSIDE);
                due("-1", x.worthOf(2, -1), OUTSIDE);
                for (int v : FAR_OFF) due("far off", x.worthOf(2, v), OUTSIDE);
            }
        });
        test("7: UNKNOWN ahead of OUTSIDE", () -> {
            due("both", new WishLamp().worthOf(4, 16), UNKNOWN);
            due("both", new WishLamp().worthOf(-1, -1), UNKNOWN);
        });
        test("7: the least and the most", () -> {
            due("least", even(6, 0, -9).worthOf(0, 63), 946);
            due("most", even(6, 0, 9).worthOf(0, 63), 1054);
        });
    }

    // ---- promises 8, 9: say, wipe

    private static void promise8() {
        test("8: codes 33 to 126, each of them", () -> {
            WishLamp x = new WishLamp();
            for (int code = 33; code <= 126; code++) {
                if (x.told(0) == 40) x.wipe();
                due("say(" + code + ")", x.say(code), (code - 33) % 40 + 1);
            }
        });
        test("8: OUTSIDE below 33", () -> {
            WishLamp x = new WishLamp();
            for (int code : new int[] {32, 31, 10, 0, -1, -97, MIN}) due("say(" + code + ")", x.say(code), OUTSIDE);
            due("none", x.told(0), 0);
        });
        test("8: OUTSIDE above 126", () -> {
            WishLamp x = new WishLamp();
            for (int code : new int[] {127, 128, 255, 256 + 97, 65536 + 97, MAX}) due("say(" + code + ")", x.say(code), OUTSIDE);
            due("none", x.told(0), 0);
        });
        test("8: a PAD has 40; FULL", () -> {
            WishLamp x = new WishLamp();
            for (int i = 1; i <= 40; i++) due("say", x.say('a'), i);
            due("the 41st", x.say('a'), FULL);
            due("and again", x.say('~'), FULL);
            due("told", x.told(0), 40);
            due("wipe", x.wipe(), 40);
            due("room again", x.say('a'), 1);
            due("a clause", x.fault(), NONE);
        });
        test("8: OUTSIDE ahead of FULL", () -> {
            WishLamp x = wish(new WishLamp(), times(40, "a"));
            due("32", x.say(32), OUTSIDE);
            due("127", x.say(127), OUTSIDE);
            due("33", x.say(33), FULL);
            due("126", x.say(126), FULL);
        });
        test("8: a sign that can not stand there is taken, too", () -> {
            WishLamp x = new WishLamp();
            due("!", x.say('!'), 1);
            due("A", x.say('A'), 2);
            due("fault", x.fault(), 0);
        });
    }

    private static void promise9() {
        test("9: of an empty PAD", () -> {
            WishLamp x = new WishLamp();
            due("wipe", x.wipe(), 0);
            due("wipe", x.wipe(), 0);
        });
        test("9: of a full PAD", () -> {
            WishLamp x = wish(new WishLamp(), times(41, "b"));
            due("wipe", x.wipe(), 40);
            due("told", x.told(0), 0);
            due("wipe", x.wipe(), 0);
            due("fault of an empty one", x.fault(), 0);
        });
        test("9: all else stays", () -> {
            WishLamp x = full();
            int[] before = allTold(x);
            due("wipe", x.wipe(), before[0]);
            for (int i = 1; i < 70; i++) due("told(" + i + ")", x.told(i), before[i]);
            due("undo", x.undo(), 0);
        });
    }

    // ---- promise 10: fault

    private static void faultIs(WishLamp x, String text, int want) {
        wish(x, text);
        due("fault of " + text, x.fault(), want);
        due("kept of " + text, x.kept(-1) == NO ? NO : NONE, want == NONE ? NONE : NO);
    }

    private static boolean isLeaf(int code, int things) {
        return code == '0' || code == '1' || code >= 'a' && code < 'a' + things;
    }

    private static boolean isMore(int code) {
        return "~-&|>=^".indexOf(code) >= 0;
    }

    /** Of each code, behind some signs: faults if it is whole then, if more must come, if it can not stand there. */
    private static void eachSign(int things, String ahead, boolean onlyLetters) {
        for (int code = 33; code <= 126; code++) {
            boolean whole = onlyLetters ? code >= 'a' && code < 'a' + things : isLeaf(code, things);
            boolean open = !onlyLetters && isMore(code);
            int want = whole ? NONE : open ? ahead.length() + 1 : ahead.length();
            WishLamp x = wish(lamp(things), ahead + (char) code);
            due("fault of " + ahead + (char) code + " with " + things, x.fault(), want);
        }
    }

    private static void promise10() {
        test("10: which signs can stand first", () -> {
            for (int n = 2; n <= 6; n++) eachSign(n, "", false);
        });
        test("10: which signs can stand as a part of -", () -> {
            for (int n = 2; n <= 6; n++) eachSign(n, "-", false);
        });
        test("10: which signs can stand as a second part", () -> {
            for (int n = 2; n <= 6; n++) {
                eachSign(n, "&a", false);
                eachSign(n, "|~b", false);
                eachSign(n, ">-0", false);
                eachSign(n, "=&ab", false);
                eachSign(n, "^1", false);
            }
        });
        test("10: ~ and a letter, nothing else", () -> {
            for (int n = 2; n <= 6; n++) {
                eachSign(n, "~", true);
                eachSign(n, "&a~", true);
                eachSign(n, "--~", true);
            }
        });
        test("10: no sign can stand behind a CLAUSE", () -> {
            for (String whole : new String[] {"a", "0", "~b", "-a", "&ab", "|&ab-1"}) {
                for (int code = 33; code <= 126; code++) {
                    WishLamp x = wish(new WishLamp(), whole + (char) code);
                    due("fault of " + whole + (char) code, x.fault(), whole.length());
                }
            }
        });
        test("10: the first sign that can not stand there, of several", () -> {
            WishLamp x = new WishLamp();
            faultIs(x, "!!", 0);
            faultIs(x, "&!!", 1);
            faultIs(x, "ab!", 1);
            faultIs(x, "&~1!", 2);
            faultIs(x, "&a!b", 2);
            faultIs(x, times(30, "!"), 0);
            faultIs(x, times(23, "-") + "!" + "a", 23);
        });
        test("10: the number of signs, if more must come: of an empty PAD", () -> faultIs(new WishLamp(), "", 0));
        test("10: the number of signs, if more must come", () -> {
            WishLamp x = new WishLamp();
            for (String open : new String[] {"-", "~", "&", "|", ">", "=", "^", "&a", "&~", "&-", "&~a", "^&ab", "|a=b"}) {
                faultIs(x, open, open.length());
            }
            faultIs(x, times(23, "-"), 23);
            faultIs(x, times(24, "-"), 24);
            faultIs(x, times(23, "-") + "~", 24);
            faultIs(x, times(12, "&") + times(12, "a"), 24);
        });
        test("10: NONE, from 1 sign to 24", () -> {
            WishLamp x = new WishLamp();
            for (int length = 1; length <= 24; length++) faultIs(x, times(length - 1, "-") + "a", NONE);
            faultIs(x, times(11, "&") + times(12, "a"), NONE);
            faultIs(x, times(11, "^") + "~a" + times(11, "b"), NONE);
        });
        test("10: a 25th, too", () -> {
            WishLamp x = new WishLamp();
            faultIs(x, times(24, "-") + "a", 24);
            faultIs(x, times(23, "-") + "~a", 24);
            faultIs(x, times(12, "&") + times(13, "a"), 24);
            faultIs(x, times(23, "-") + "aa", 24);
            faultIs(x, times(24, "-") + "!", 24);
            faultIs(x, times(24, "-") + "-", 24);
        });
        test("10: a full PAD", () -> {
            WishLamp x = new WishLamp();
            faultIs(x, times(40, "-"), 24);
            faultIs(x, times(39, "-") + "a", 24);
            faultIs(x, "a" + times(39, "a"), 1);
        });
    }

    // ---- promise 11: enact

    private static void notEnacted(String text) {
        WishLamp x = law(new WishLamp(), "|ab");
        x.now(5);
        wish(x, text);
        due("enact of " + text, x.enact(), NO);
        due("the pad stays", x.told(0), text.length());
        due("the law stays", x.told(9), 12);
        wish(x, "1");
        due("the law stays", x.kept(0), 1);
    }

    private static void promise11() {
        test("11: NO: there is a FAULT", () -> {
            for (String text : new String[] {"", "&", "&a", "~", "ab", "e", "!", times(24, "-"), times(24, "-") + "a", times(40, "a")}) {
                notEnacted(text);
            }
        });
        test("11: signs, from 1 to 24", () -> {
            WishLamp x = new WishLamp();
            due("1", wish(x, "a").enact(), 1);
            due("24", wish(x, times(23, "-") + "a").enact(), 24);
            due("not a", x.told(9), 8);
            due("not a", wish(x, "1").kept(0), 0);
            due("not a", x.kept(1), 2);
        });
        test("11: it is empty then", () -> {
            WishLamp x = law(new WishLamp(), "a");
            due("told", x.told(0), 0);
            due("fault", x.fault(), 0);
            due("once more", x.enact(), NO);
            due("say", x.say('a'), 1);
        });
        test("11: THE LAW: never", () -> {
            WishLamp x = law(new WishLamp(), "0");
            due("told", x.told(9), 0);
            due("void", wish(x, "1").makes(), STATE);
            due("void", x.kept(-1), 0);
        });
        test("11: THE LAW: always, again", () -> {
            WishLamp x = law(law(new WishLamp(), "0"), "1");
            due("told", x.told(9), 16);
            due("all", wish(x, "1").kept(-1), 16);
        });
        test("11: in the place of the old one, though the old one forbids it", () -> {
            WishLamp x = law(law(new WishLamp(), "a"), "-a");
            due("told", x.told(9), 8);
            due("not a", wish(x, "1").kept(0), 0);
        });
        test("11: ~ stands for what is so NOW, for good", () -> {
            WishLamp x = new WishLamp();
            x.now(9);
            law(x, "&~a~b");
            x.now(6);
            wish(x, "1");
            due("a, not b", x.kept(0), 1);
            due("a, not b", x.kept(1), 5);
            due("four", x.told(9), 4);
            x.image(0);
            x.now(2);
            x.restore(0);
            due("in an image, too", x.kept(0), 1);
            due("what is made", x.grant(), 1);
            x.undo();
            due("undone", wish(x, "1").kept(0), 1);
        });
        test("11: STILL is nothing to THE LAW", () -> {
            WishLamp x = new WishLamp();
            x.set(2, 0);
            due("all as now", law(x, "1").told(9), 16);
            due("eight", law(x, "d").told(9), 8);
        });
        test("11: NOW, what can be UNDONE, SIGHTS stay", () -> {
            WishLamp x = full();
            int[] before = allTold(x);
            due("enact", wish(x, "-a").enact(), 2);
            for (int i = 1; i < 70; i++) {
                if (i != 9) due("told(" + i + ")", x.told(i), before[i]);
            }
        });
        test("11: with each number of THINGS all WORLDS may keep it", () -> {
            for (int n = 2; n <= 6; n++) {
                WishLamp x = lamp(n);
                due("all", law(x, "1").told(9), 1 << n);
                due("half", law(x, "-a").told(9), 1 << n - 1);
                due("all", law(x, "|a-a").told(9), 1 << n);
                due("none", law(x, "&a-a").told(9), 0);
            }
        });
    }

    public static void main(String[] args) {
        promise1();
        promise2();
        promise3();
        promise4();
        promise5();
        promise6();
        promise7();
        promise8();
        promise9();
        promise10();
        promise11();
        end();
    }
}
