import java.lang.management.ManagementFactory;
import java.lang.reflect.Array;
import java.lang.reflect.Field;
import java.lang.reflect.Modifier;
import java.util.ArrayDeque;
import java.util.Deque;
import java.util.IdentityHashMap;
import java.util.Map;

/** The room that an object takes, that its calls take none, and that the dearest ones end soon. */
public final class RoomTest {
    private static int wrong = 0;
    private static long spent = 0;

    private static void check(boolean good, String what) {
        if (!good) {
            wrong++;
            System.out.println(what);
        }
    }

    private static long[] sizeOf(Object root) throws IllegalAccessException {
        Map<Object, Boolean> seen = new IdentityHashMap<>();
        Deque<Object> open = new ArrayDeque<>();
        open.add(root);
        seen.put(root, true);
        long elements = 0;
        while (!open.isEmpty()) {
            Object o = open.poll();
            if (o.getClass().isArray()) {
                elements += Array.getLength(o);
                if (o.getClass().getComponentType().isPrimitive()) continue;
                for (int i = 0; i < Array.getLength(o); i++) reach(Array.get(o, i), seen, open);
                continue;
            }
            for (Field f : o.getClass().getDeclaredFields()) {
                if (Modifier.isStatic(f.getModifiers())) continue;
                elements++;
                f.setAccessible(true);
                if (!f.getType().isPrimitive()) reach(f.get(o), seen, open);
            }
        }
        return new long[] {seen.size(), elements};
    }

    private static void reach(Object o, Map<Object, Boolean> seen, Deque<Object> open) {
        if (o != null && seen.put(o, true) == null) open.add(o);
    }

    /** Everything once, the dear calls at their dearest. */
    private static void allCalls(WishLamp x, int round) {
        x.things(6);
        for (int c = 0; c < 4; c++) {
            for (int t = 0; t < 6; t++) x.worth(c, t, (c * 7 + t * 5 + round) % 19 - 9);
        }
        for (int t = 0; t < 6; t++) x.taste(t, (t * 4 + round) % 19 - 9);
        x.set(0, round % 3);
        x.set(2, round % 7);
        x.now(round % 64);
        x.worthOf(1, 9);
        for (char c : SIGNS) x.say(c);
        check(x.fault() == WishLamp.NONE, "the wish has a fault");
        spent += x.fault() + x.kept(-1) + x.kept(3) + x.makes() + x.extreme(1, 1, 1) + x.harmed() + x.comma(0);
        spent += x.votes() + x.paid() + x.drunk(3, 1) + x.mean(2, 0) + x.picked(x.makes());
        spent += x.grant() + x.undo() + x.term(5) + x.wording(50, 0) + x.most(6, 1);
        spent += x.row(3, 6, 0) + x.row(2, 3, 1) + x.lamps(2, 6, 0) + x.sixths(1, 2, 3, 0) + x.agreed(0);
        spent += x.fit(-1) + x.fit(-2) + x.fit(2) + x.came(1, 3) + x.came(5, 3) + x.letters(0) + x.forget();
        spent += x.year(round % 9999, 99, 1) + x.image(0) + x.restore(0) + x.told(40);
        x.say('a');
        x.enact();
        x.wipe();
    }

    private static final char[] SIGNS = "|&a~b>-c^d=e-|~f-&ab".toCharArray();

    public static void main(String[] args) throws IllegalAccessException {
        long[] size = sizeOf(new WishLamp());
        System.out.println("an object: " + size[0] + " objects and arrays, " + size[1] + " fields and elements");
        check(size[0] <= 100 && size[1] <= 5000, "an object takes too much room");
        WishLamp x = new WishLamp();
        com.sun.management.ThreadMXBean threads = (com.sun.management.ThreadMXBean) ManagementFactory.getThreadMXBean();
        long me = Thread.currentThread().getId();
        for (int i = 0; i < 200; i++) allCalls(x, i);
        long before = threads.getThreadAllocatedBytes(me);
        for (int i = 0; i < 200; i++) allCalls(x, i);
        long taken = threads.getThreadAllocatedBytes(me) - before;
        // The counter's own reading may take some bytes; one object a round would take 3200.
        check(taken < 2000, "calls take " + taken + " bytes");
        long start = System.nanoTime();
        for (int i = 0; i < 512; i++) spent += x.row(3, 6, 0);
        long millis = (System.nanoTime() - start) / 1000000;
        System.out.println("512 rows of three: " + millis + " ms");
        check(millis < 60000, "rows take too long");
        if (wrong != 0 || spent == 0) System.exit(1);
    }
}
