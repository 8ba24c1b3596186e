import java.util.Random;

/** Drawn runs of calls, each answered by the class and by the slow lamp; the draws are the same each time. */
public final class CompareTest {
    private static final int CALLS = 512;
    private static int wrong = 0;

    private final Random draws;
    private final WishLamp lamp = new WishLamp();
    private final SlowLamp slow = new SlowLamp();
    private final StringBuilder story = new StringBuilder();
    private int things = 4;
    private int calls = 0;
    private boolean failed = false;

    private CompareTest(long seed) {
        draws = new Random(seed);
    }

    private int in(int low, int high) {
        return low + draws.nextInt(high - low + 1);
    }

    /** Mostly as told, now and then just outside or far away. */
    private int about(int low, int high) {
        int kind = draws.nextInt(40);
        if (kind == 0) return low - 1;
        if (kind == 1) return high + 1;
        if (kind == 2) return draws.nextBoolean() ? Integer.MIN_VALUE : Integer.MAX_VALUE;
        return in(low, high);
    }

    private void due(String call, long got, long want) {
        calls++;
        if (story.length() < 20000) story.append(call).append(" -> ").append(want).append('\n');
        if (got != want && !failed) {
            failed = true;
            wrong++;
            System.out.println(story);
            System.out.println(call + " answered " + got + ", due is " + want);
        }
    }

    private void say(int sign) {
        due("say(" + sign + ")", lamp.say(sign), slow.say(sign));
    }

    private String clause(int room) {
        int kind = draws.nextInt(room < 3 ? 6 : 12);
        char letter = (char) ('a' + in(0, things - 1));
        if (kind < 4 || room < 2) return "" + letter;
        if (kind == 4) return "~" + letter;
        if (kind == 5) return draws.nextInt(4) == 0 ? in(0, 1) + "" : "-" + clause(room - 1);
        if (kind == 6) return "-" + clause(room - 1);
        int left = in(1, room - 2);
        return "&|>=^".charAt(in(0, 4)) + clause(left) + clause(room - 1 - left);
    }

    private void newText() {
        due("wipe()", lamp.wipe(), slow.wipe());
        String text = clause(draws.nextInt(3) == 0 ? 24 : in(1, 9));
        if (draws.nextInt(12) == 0) {
            int place = in(0, text.length());
            text = text.substring(0, place) + (char) in(33, 126) + text.substring(place);
        }
        for (int i = 0; i < text.length(); i++) say(text.charAt(i));
        due("fault()", lamp.fault(), slow.fault());
    }

    private void worlds() {
        int v = about(-9, 9);
        int a = about(0, 3);
        int t = about(0, things - 1);
        int w = about(0, (1 << things) - 1);
        switch (in(0, 9)) {
            case 0:
            case 1:
            case 2: due("worth(" + a + "," + t + "," + v + ")", lamp.worth(a, t, v), slow.worth(a, t, v)); break;
            case 3:
            case 4: due("taste(" + t + "," + v + ")", lamp.taste(t, v), slow.taste(t, v)); break;
            case 5: {
                int which = about(0, 2);
                int x = which == 2 ? about(0, 6) : about(0, 3);
                due("set(" + which + "," + x + ")", lamp.set(which, x), slow.set(which, x));
                break;
            }
            case 6: due("now(" + w + ")", lamp.now(w), slow.now(w)); break;
            case 7: due("worthOf(" + a + "," + w + ")", lamp.worthOf(a, w), slow.worthOf(a, w)); break;
            case 8:
                if (draws.nextInt(3) == 0) due("enact()", lamp.enact(), slow.enact());
                else say(about(33, 126));
                break;
            default: newText();
        }
    }

    private void wishes() {
        int what = about(0, 2);
        switch (in(0, 6)) {
            case 0: {
                int i = about(-1, 12);
                due("kept(" + i + ")", lamp.kept(i), slow.kept(i));
                break;
            }
            case 1: due("makes()", lamp.makes(), slow.makes()); break;
            case 2: {
                int c = about(0, 3);
                int which = about(0, 1);
                int x = about(0, 1);
                due("extreme(" + c + "," + which + "," + x + ")", lamp.extreme(c, which, x), slow.extreme(c, which, x));
                break;
            }
            case 3: due("harmed()", lamp.harmed(), slow.harmed()); break;
            case 4: due("grant()", lamp.grant(), slow.grant()); break;
            case 5: due("undo()", lamp.undo(), slow.undo()); break;
            default: due("comma(" + what + ")", lamp.comma(what), slow.comma(what));
        }
    }

    private void terms() {
        int words = about(0, 6);
        int what = about(0, 1);
        int count = 1;
        for (int i = 0; i < things; i++) count *= 3;
        switch (in(0, 4)) {
            case 0: {
                int t = about(0, count - 1);
                due("term(" + t + ")", lamp.term(t), slow.term(t));
                break;
            }
            case 1: {
                int goal = draws.nextInt(4) == 0 ? about(-99, 99) : about(-12, 20);
                due("wording(" + goal + "," + what + ")", lamp.wording(goal, what), slow.wording(goal, what));
                break;
            }
            case 2: due("most(" + words + "," + what + ")", lamp.most(words, what), slow.most(words, what)); break;
            case 3: {
                int k = about(1, 3);
                if (things > 4 && draws.nextInt(8) != 0) return;
                due("row(" + k + "," + words + "," + what + ")", lamp.row(k, words, what), slow.row(k, words, what));
                break;
            }
            default: {
                int c = about(0, 3);
                if (things > 4 && draws.nextInt(8) != 0) return;
                due("lamps(" + c + "," + words + "," + what + ")", lamp.lamps(c, words, what), slow.lamps(c, words, what));
            }
        }
    }

    private void sixths() {
        int a = in(0, 6);
        int b = in(0, 6 - a);
        int c = in(0, 6 - a - b);
        int d = 6 - a - b - c;
        if (draws.nextInt(8) == 0) d = about(-1, 7);
        due("sixths(" + a + "," + b + "," + c + "," + d + ")", lamp.sixths(a, b, c, d), slow.sixths(a, b, c, d));
    }

    private void cousins() {
        int what = about(0, 1);
        int part = about(0, 1);
        int w = about(0, (1 << things) - 1);
        switch (in(0, 9)) {
            case 0: sixths(); break;
            case 1: due("votes()", lamp.votes(), slow.votes()); break;
            case 2: due("agreed(" + what + ")", lamp.agreed(what), slow.agreed(what)); break;
            case 3: due("paid()", lamp.paid(), slow.paid()); break;
            case 4: {
                int chosen = w;
                if (draws.nextInt(2) == 0 && slow.kept(-1) > 0) chosen = slow.kept(in(0, slow.kept(-1) - 1));
                due("picked(" + chosen + ")", lamp.picked(chosen), slow.picked(chosen));
                break;
            }
            case 5: {
                int t = about(-2, things - 1);
                due("fit(" + t + ")", lamp.fit(t), slow.fit(t));
                break;
            }
            case 6: {
                int to = draws.nextInt(3) == 0 ? w : about(0, (1 << things) - 1);
                due("came(" + w + "," + to + ")", lamp.came(w, to), slow.came(w, to));
                break;
            }
            case 7: due("letters(" + what + ")", lamp.letters(what), slow.letters(what)); break;
            case 8: {
                int t = about(0, things - 1);
                due("drunk(" + t + "," + part + ")", lamp.drunk(t, part), slow.drunk(t, part));
                break;
            }
            default: {
                int c = about(0, 3);
                due("mean(" + c + "," + part + ")", lamp.mean(c, part), slow.mean(c, part));
            }
        }
    }

    private void rest() {
        switch (in(0, 9)) {
            case 0:
            case 1: {
                int seed = about(0, 9999);
                int m = about(1, 99);
                int what = about(0, 2);
                due("year(" + seed + "," + m + "," + what + ")", lamp.year(seed, m, what), slow.year(seed, m, what));
                break;
            }
            case 2:
                if (draws.nextInt(3) == 0) due("forget()", lamp.forget(), slow.forget());
                break;
            case 3: {
                int n = about(0, 1);
                due("image(" + n + ")", lamp.image(n), slow.image(n));
                break;
            }
            case 4: {
                int n = about(0, 1);
                if (draws.nextInt(3) == 0) due("restore(" + n + ")", lamp.restore(n), slow.restore(n));
                things = slow.told(1);
                break;
            }
            case 5: {
                int n = about(2, 6);
                if (draws.nextInt(6) == 0) due("things(" + n + ")", lamp.things(n), slow.things(n));
                things = slow.told(1);
                break;
            }
            default: {
                int what = about(0, 69);
                due("told(" + what + ")", lamp.told(what), slow.told(what));
            }
        }
    }

    private void run() {
        if (draws.nextInt(2) == 0) {
            int n = in(2, 6);
            due("things(" + n + ")", lamp.things(n), slow.things(n));
            things = n;
        }
        if (draws.nextInt(2) == 0) {
            int still = in(0, 3);
            due("set(2," + still + ")", lamp.set(2, still), slow.set(2, still));
        }
        for (int i = 0; i < CALLS && calls < CALLS - 30 && !failed; i++) {
            switch (in(0, 7)) {
                case 0:
                case 1:
                case 2: worlds(); break;
                case 3:
                case 4: wishes(); break;
                case 5: terms(); break;
                case 6: cousins(); break;
                default: rest();
            }
        }
    }

    public static void main(String[] args) {
        int runs = args.length > 0 ? Integer.parseInt(args[0]) : 300;
        long first = args.length > 1 ? Long.parseLong(args[1]) : 1;
        long calls = 0;
        for (int i = 0; i < runs && wrong < 3; i++) {
            CompareTest test = new CompareTest(first + i);
            test.run();
            calls += test.calls;
        }
        System.out.println(calls + " calls compared, " + wrong + " runs differ");
        if (wrong != 0) System.exit(1);
    }
}
