import java.util.ArrayList;
import java.util.List;

/**
 * "They change nothing": two lamps that are the same, a refused call made on the one of them, then both asked for all
 * that can be asked for, undone and restored.
 */
public final class BoundaryRefusalsTest extends Boundary {
    interface Maker {
        WishLamp make();
    }

    interface Call {
        long on(WishLamp x);
    }

    // ---- lamps to be refused

    /** Nothing as at first; image 0 kept, image 1 not; a whole wish on the pad. */
    private static WishLamp whole() {
        WishLamp x = full();
        x.image(0);
        x.taste(3, 8);
        x.came(1, 1);
        wish(x, "&c-d").grant();
        return wish(x, "|a-b");
    }

    private static WishLamp open() {
        return wish(whole(), "&a");
    }

    private static WishLamp empty() {
        return wish(whole(), "");
    }

    private static WishLamp overlong() {
        return wish(whole(), times(24, "-") + "a");
    }

    private static WishLamp fullPad() {
        return wish(whole(), times(40, "~"));
    }

    private static WishLamp voidByLaw() {
        return wish(law(whole(), "0"), "|a-b");
    }

    private static WishLamp voidByWords() {
        return wish(whole(), "&a-a");
    }

    private static WishLamp openAndVoid() {
        return wish(law(whole(), "0"), "-");
    }

    private static WishLamp fullOfSights() {
        WishLamp x = whole();
        for (int i = 0; i < 6; i++) {
            x.picked(1);
            x.came(i, 3);
        }
        return x;
    }

    private static WishLamp fullPast() {
        WishLamp x = whole();
        x.set(2, 6);
        for (int i = 0; i < 17; i++) wish(x, i % 3 == 0 ? "b" : "-b").grant();
        return wish(x, "|a-b");
    }

    private static WishLamp noPast() {
        WishLamp x = whole();
        x.now(6);
        return x;
    }

    // ---- all that can be asked for

    private static void addTold(WishLamp x, List<Long> all) {
        for (int i = 0; i < 70; i++) all.add((long) x.told(i));
        all.add((long) x.fit(-1));
        all.add((long) x.fit(-2));
        all.add((long) x.letters(0));
        all.add((long) x.letters(1));
    }

    private static void addWish(WishLamp x, List<Long> all) {
        int[] answers = {x.fault(), x.kept(-1), x.kept(0), x.kept(1), x.makes(), x.harmed(), x.votes(), x.paid(),
            x.comma(0), x.comma(1), x.comma(2), x.extreme(0, 0, 1), x.extreme(3, 1, 1), x.fit(0), x.fit(3),
            x.term(0), x.term(40), x.most(2, 1), x.row(2, 1, 0), x.agreed(0), x.year(5, 9, 1)};
        for (int a : answers) all.add((long) a);
    }

    /** It ends with what is behind it: the pad is wiped, all undone, the images restored. */
    private static List<Long> allOf(WishLamp x) {
        List<Long> all = new ArrayList<>();
        addTold(x, all);
        addWish(x, all);
        all.add((long) x.say('b'));
        all.add((long) x.fault());
        all.add((long) x.kept(-1));
        all.add((long) x.wipe());
        for (int i = 0; i < 17; i++) all.add((long) x.undo());
        for (int n = 0; n < 2; n++) {
            all.add((long) x.restore(n));
            addTold(x, all);
            all.add((long) x.undo());
            all.add((long) x.undo());
        }
        return all;
    }

    private static void changesNothing(String name, Maker maker, Call call) {
        WishLamp x = maker.make();
        call.on(x);
        same(name, allOf(x), allOf(maker.make()));
    }

    private static void same(String name, List<Long> got, List<Long> want) {
        int differ = 0;
        for (int i = 0; i < want.size(); i++) {
            if (!got.get(i).equals(want.get(i))) differ++;
        }
        due("answers that differ after " + name, differ, 0);
    }

    /** The call is refused so, and all is as it was. */
    private static void refused(String name, Maker maker, Call call, long want) {
        due(name, call.on(maker.make()), want);
        changesNothing(name, maker, call);
    }

    // ---- what is refused whatever the state

    private static void numbers(Maker m) {
        refused("things(1)", m, x -> x.things(1), OUTSIDE);
        refused("things(7)", m, x -> x.things(7), OUTSIDE);
        refused("worth(-1, 0, 1)", m, x -> x.worth(-1, 0, 1), UNKNOWN);
        refused("worth(4, 0, 1)", m, x -> x.worth(4, 0, 1), UNKNOWN);
        refused("worth(0, -1, 1)", m, x -> x.worth(0, -1, 1), UNKNOWN);
        refused("worth(0, 4, 1)", m, x -> x.worth(0, 4, 1), UNKNOWN);
        refused("worth(0, 0, 10)", m, x -> x.worth(0, 0, 10), OUTSIDE);
        refused("worth(0, 0, -10)", m, x -> x.worth(0, 0, -10), OUTSIDE);
        refused("taste(-1, 1)", m, x -> x.taste(-1, 1), UNKNOWN);
        refused("taste(4, 1)", m, x -> x.taste(4, 1), UNKNOWN);
        refused("taste(0, 10)", m, x -> x.taste(0, 10), OUTSIDE);
        refused("taste(0, -10)", m, x -> x.taste(0, -10), OUTSIDE);
        refused("set(0, 3)", m, x -> x.set(0, 3), OUTSIDE);
        refused("set(1, 4)", m, x -> x.set(1, 4), OUTSIDE);
        refused("set(2, 7)", m, x -> x.set(2, 7), OUTSIDE);
        refused("set(0, -1)", m, x -> x.set(0, -1), OUTSIDE);
        refused("set(1, -1)", m, x -> x.set(1, -1), OUTSIDE);
        refused("set(2, -1)", m, x -> x.set(2, -1), OUTSIDE);
        refused("set(3, 0)", m, x -> x.set(3, 0), OUTSIDE);
        refused("set(-1, 0)", m, x -> x.set(-1, 0), OUTSIDE);
        refused("now(16)", m, x -> x.now(16), OUTSIDE);
        refused("now(-1)", m, x -> x.now(-1), OUTSIDE);
        refused("say(32)", m, x -> x.say(32), OUTSIDE);
        refused("say(127)", m, x -> x.say(127), OUTSIDE);
        refused("sixths(6, 1, 0, 0)", m, x -> x.sixths(6, 1, 0, 0), OUTSIDE);
        refused("sixths(1, 1, 1, 1)", m, x -> x.sixths(1, 1, 1, 1), OUTSIDE);
        refused("sixths(0, 0, 7, -1)", m, x -> x.sixths(0, 0, 7, -1), OUTSIDE);
        refused("picked(16)", m, x -> x.picked(16), OUTSIDE);
        refused("picked(-1)", m, x -> x.picked(-1), OUTSIDE);
        refused("came(16, 0)", m, x -> x.came(16, 0), OUTSIDE);
        refused("came(0, 16)", m, x -> x.came(0, 16), OUTSIDE);
        refused("image(-1)", m, x -> x.image(-1), OUTSIDE);
        refused("image(2)", m, x -> x.image(2), OUTSIDE);
        refused("restore(-1)", m, x -> x.restore(-1), OUTSIDE);
        refused("restore(2)", m, x -> x.restore(2), OUTSIDE);
        refused("restore(1)", m, x -> x.restore(1), STATE);
    }

    private static void questions(Maker m) {
        refused("worthOf(4, 0)", m, x -> x.worthOf(4, 0), UNKNOWN);
        refused("worthOf(0, 16)", m, x -> x.worthOf(0, 16), OUTSIDE);
        refused("extreme(4, 0, 0)", m, x -> x.extreme(4, 0, 0), UNKNOWN);
        refused("extreme(0, 2, 0)", m, x -> x.extreme(0, 2, 0), OUTSIDE);
        refused("extreme(0, 0, 2)", m, x -> x.extreme(0, 0, 2), OUTSIDE);
        refused("comma(3)", m, x -> x.comma(3), OUTSIDE);
        refused("term(81)", m, x -> x.term(81), OUTSIDE);
        refused("wording(100, 0)", m, x -> x.wording(100, 0), OUTSIDE);
        refused("wording(0, 2)", m, x -> x.wording(0, 2), OUTSIDE);
        refused("most(7, 0)", m, x -> x.most(7, 0), OUTSIDE);
        refused("most(0, 2)", m, x -> x.most(0, 2), OUTSIDE);
        refused("row(0, 0, 0)", m, x -> x.row(0, 0, 0), OUTSIDE);
        refused("row(4, 0, 0)", m, x -> x.row(4, 0, 0), OUTSIDE);
        refused("row(1, 7, 0)", m, x -> x.row(1, 7, 0), OUTSIDE);
        refused("row(1, 0, 2)", m, x -> x.row(1, 0, 2), OUTSIDE);
        refused("lamps(4, 0, 0)", m, x -> x.lamps(4, 0, 0), UNKNOWN);
        refused("lamps(1, 0, 0), the wisher", m, x -> x.lamps(1, 0, 0), UNKNOWN);
        refused("lamps(0, 7, 0)", m, x -> x.lamps(0, 7, 0), OUTSIDE);
        refused("lamps(0, 0, 2)", m, x -> x.lamps(0, 0, 2), OUTSIDE);
        refused("agreed(2)", m, x -> x.agreed(2), OUTSIDE);
        refused("fit(4)", m, x -> x.fit(4), UNKNOWN);
        refused("fit(-3)", m, x -> x.fit(-3), UNKNOWN);
        refused("letters(2)", m, x -> x.letters(2), OUTSIDE);
        refused("drunk(4, 0)", m, x -> x.drunk(4, 0), LOST + UNKNOWN);
        refused("drunk(0, 2)", m, x -> x.drunk(0, 2), LOST + OUTSIDE);
        refused("mean(4, 0)", m, x -> x.mean(4, 0), LOST + UNKNOWN);
        refused("mean(0, 2)", m, x -> x.mean(0, 2), LOST + OUTSIDE);
        refused("year(10000, 1, 0)", m, x -> x.year(10000, 1, 0), OUTSIDE);
        refused("year(0, 100, 0)", m, x -> x.year(0, 100, 0), OUTSIDE);
        refused("year(0, 0, 0)", m, x -> x.year(0, 0, 0), OUTSIDE);
        refused("year(0, 1, 3)", m, x -> x.year(0, 1, 3), OUTSIDE);
        refused("told(70)", m, x -> x.told(70), OUTSIDE);
        refused("told(14)", m, x -> x.told(14), OUTSIDE);
        refused("told(24)", m, x -> x.told(24), OUTSIDE);
        refused("told(34)", m, x -> x.told(34), OUTSIDE);
    }

    // ---- what is refused in certain states

    private static void faulty(Maker m) {
        refused("enact()", m, x -> x.enact(), NO);
        refused("kept(-1)", m, x -> x.kept(-1), NO);
        refused("kept(0)", m, x -> x.kept(0), NO);
        refused("makes()", m, x -> x.makes(), NO);
        refused("extreme(0, 0, 0)", m, x -> x.extreme(0, 0, 0), NO);
        refused("harmed()", m, x -> x.harmed(), NO);
        refused("grant()", m, x -> x.grant(), NO);
        refused("comma(0)", m, x -> x.comma(0), NO);
        refused("votes()", m, x -> x.votes(), NO);
        refused("paid()", m, x -> x.paid(), NO);
        refused("picked(1)", m, x -> x.picked(1), NO);
        refused("drunk(0, 0)", m, x -> x.drunk(0, 0), LOST + NO);
        refused("mean(0, 0)", m, x -> x.mean(0, 0), LOST + NO);
    }

    private static void voided(Maker m) {
        refused("makes()", m, x -> x.makes(), STATE);
        refused("extreme(0, 0, 0)", m, x -> x.extreme(0, 0, 0), STATE);
        refused("harmed()", m, x -> x.harmed(), STATE);
        refused("grant()", m, x -> x.grant(), STATE);
        refused("votes()", m, x -> x.votes(), STATE);
        refused("paid()", m, x -> x.paid(), STATE);
        refused("picked(1)", m, x -> x.picked(1), NO);
        refused("drunk(0, 0)", m, x -> x.drunk(0, 0), LOST + STATE);
        refused("mean(0, 0)", m, x -> x.mean(0, 0), LOST + STATE);
    }

    /** All calls that only ask, made one behind the other. */
    private static void askAll(WishLamp x) {
        addTold(x, new ArrayList<>());
        addWish(x, new ArrayList<>());
        x.worthOf(2, 9);
        for (int i = 0; i < 4; i++) {
            x.extreme(i, i % 2, i / 2);
            x.drunk(i, 0);
            x.mean(i, 1);
            x.lamps(i, 2, i % 2);
            x.row(i, 3 - i, 1);
            x.wording(i - 2, i % 2);
            x.agreed(i % 2);
        }
    }

    public static void main(String[] args) {
        Maker[] makers = {BoundaryRefusalsTest::whole, BoundaryRefusalsTest::open, BoundaryRefusalsTest::empty,
            BoundaryRefusalsTest::overlong, BoundaryRefusalsTest::fullPad, BoundaryRefusalsTest::voidByLaw,
            BoundaryRefusalsTest::voidByWords, BoundaryRefusalsTest::openAndVoid, BoundaryRefusalsTest::fullOfSights,
            BoundaryRefusalsTest::fullPast, BoundaryRefusalsTest::noPast};
        String[] names = {"whole", "open", "empty", "overlong", "full pad", "void by law", "void by words",
            "open and void", "full of sights", "full past", "no past"};
        for (int i = 0; i < makers.length; i++) {
            Maker m = makers[i];
            test("They change nothing: numbers, " + names[i], () -> numbers(m));
            test("They change nothing: questions, " + names[i], () -> questions(m));
            test("What only asks changes nothing, " + names[i], () -> changesNothing("all questions", m, x -> {
                askAll(x);
                return 0;
            }));
        }
        for (int i : new int[] {1, 2, 3, 4, 7}) {
            test("They change nothing: NO, " + names[i], () -> faulty(makers[i]));
        }
        for (int i : new int[] {5, 6}) {
            test("They change nothing: STATE, " + names[i], () -> voided(makers[i]));
        }
        test("They change nothing: a TERM that is VOID", () -> refused("term(0)", makers[5], x -> x.term(0), STATE));
        test("They change nothing: a PAD that is full", () -> refused("say('a')", makers[4], x -> x.say('a'), FULL));
        test("They change nothing: SIGHTS that are full", () -> {
            refused("picked(1)", makers[8], x -> x.picked(1), FULL);
            refused("picked(5)", makers[8], x -> x.picked(5), FULL);
            refused("picked(2), not kept", makers[8], x -> x.picked(2), NO);
            refused("came(0, 1)", makers[8], x -> x.came(0, 1), FULL);
        });
        test("They change nothing: nothing to be UNDONE", () -> refused("undo()", makers[10], x -> x.undo(), STATE));
        test("They change nothing: a WORLD that does not KEEP the WISH", () -> refused("picked(2)", makers[0], x -> x.picked(2), NO));
        end();
    }
}
