import com.sun.management.ThreadMXBean;
import java.lang.management.ManagementFactory;
import java.lang.reflect.Array;
import java.lang.reflect.Field;
import java.lang.reflect.Modifier;
import java.util.ArrayDeque;
import java.util.Collections;
import java.util.Deque;
import java.util.IdentityHashMap;
import java.util.Set;

/** All calls of one run live in one room: no call makes an object, and a new object takes little of it. */
public final class RoomTest {
    private static final ThreadMXBean THREADS = (ThreadMXBean) ManagementFactory.getThreadMXBean();
    private static final int ROUNDS = 2000;
    /** What the measuring and the machine make by themselves; a call with an object would make 16 a call at least. */
    private static final long SLACK = 8L * ROUNDS;
    /** Of 600,000 and 7,300,000 in the room: then some 3,000 belts fit. */
    private static final int MOST_OBJECTS = 200, MOST_CELLS = 2_000;

    private static int wrong = 0;
    private static int sum = 0;

    private static void atMost(String what, long bytes, long most) {
        if (bytes > most) {
            wrong++;
            System.out.println(what + " takes " + bytes + ", " + most + " at most are due");
        }
    }

    private static final String[] CALLS = {"write", "wipe", "fault", "lay", "guest", "slice", "putIn", "pass", "knob",
        "take", "undo", "falls", "willBe", "content", "knobFor", "often", "waits", "harm", "share", "round", "seen", "forget",
        "hot", "left", "morning", "keep", "back", "count"};

    private static int call(ToastBelt x, int which, int i) {
        switch (which) {
            case 0: return x.write(32 + i % 95);
            case 1: return x.wipe();
            case 2: return x.fault();
            case 3: return x.lay();
            case 4: return x.guest(i % 9, i % 4);
            case 5: return x.slice(i % 9, i % 6);
            case 6: return x.putIn(i % 9, i % 2);
            case 7: return x.pass(1 + i % 3);
            case 8: return x.knob(1 + i % 9);
            case 9: return x.take(i % 9, i % 8);
            case 10: return x.undo();
            case 11: return x.falls(i % 9);
            case 12: return x.willBe(i % 9);
            case 13: return x.content();
            case 14: return x.knobFor(i % 9, i % 2);
            case 15: return x.often(i % 9, i % 2);
            case 16: return x.waits(i % 9, i % 2);
            case 17: return x.harm(1 + i % 9);
            case 18: return x.share(i % 10 - 1);
            case 19: return x.round();
            case 20: return x.seen(i % 4, i % 2, 1 + i % 9, i % 1000);
            case 21: return x.forget();
            case 22: return x.hot(i % 2);
            case 23: return x.left(i % 9, i % 9, i % 2);
            case 24: return x.morning(i % 10000, 1 + i % 40, i % 2);
            case 25: return x.keep();
            case 26: return x.back();
            default: return x.count(i % 12);
        }
    }

    /** Nine guests, three slices on the tray, three on the belt, three in hands. */
    private static ToastBelt busy() {
        ToastBelt x = new ToastBelt();
        for (char letter : ("l9;k3;h20,30;" + "g0,0,99;".repeat(9)).toCharArray()) {
            x.write(letter);
        }
        x.lay();
        for (int g = 0; g < 6; g++) {
            x.putIn(g, g % 2);
            x.pass(1);
        }
        return x;
    }

    private static long bytesOf(int which) {
        ToastBelt x = busy();
        for (int i = 0; i < 20; i++) {
            sum += call(x, which, i);
        }
        long before = THREADS.getCurrentThreadAllocatedBytes();
        for (int i = 0; i < ROUNDS; i++) {
            sum += call(x, which, i);
        }
        return THREADS.getCurrentThreadAllocatedBytes() - before;
    }

    /** Objects and arrays (0), fields and elements (1) that hang on x. */
    private static int[] hangingOn(Object x) throws IllegalAccessException {
        Set<Object> met = Collections.newSetFromMap(new IdentityHashMap<>());
        Deque<Object> ahead = new ArrayDeque<>();
        int cells = 0;
        met.add(x);
        ahead.add(x);
        while (!ahead.isEmpty()) {
            Object o = ahead.remove();
            if (o.getClass().isArray()) {
                for (int i = 0; i < Array.getLength(o); i++, cells++) {
                    meet(Array.get(o, i), o.getClass().getComponentType(), met, ahead);
                }
                continue;
            }
            for (Field f : o.getClass().getDeclaredFields()) {
                if (!Modifier.isStatic(f.getModifiers())) {
                    f.setAccessible(true);
                    cells++;
                    meet(f.get(o), f.getType(), met, ahead);
                }
            }
        }
        return new int[] {met.size(), cells};
    }

    private static void meet(Object part, Class<?> type, Set<Object> met, Deque<Object> ahead) {
        if (!type.isPrimitive() && part != null && met.add(part)) {
            ahead.add(part);
        }
    }

    public static void main(String[] args) throws IllegalAccessException {
        int[] atFirst = hangingOn(new ToastBelt());
        atMost("a new object, in objects,", atFirst[0], MOST_OBJECTS);
        atMost("a new object, in fields and elements,", atFirst[1], MOST_CELLS);
        ToastBelt used = busy();
        for (int i = 0; i < 400; i++) {
            sum += call(used, i % CALLS.length, i);
        }
        int[] then = hangingOn(used);
        atMost("a used object, in objects,", then[0], atFirst[0]);
        atMost("a used object, in fields and elements,", then[1], atFirst[1]);
        if (THREADS.isThreadAllocatedMemorySupported()) {
            for (int which = 0; which < CALLS.length; which++) {
                atMost(ROUNDS + " calls of " + CALLS[which] + ", in bytes,", bytesOf(which), SLACK);
            }
        }
        // The sum is told so that no call can be left out.
        System.out.println(wrong == 0 ? "a belt is " + atFirst[0] + " objects, " + atFirst[1]
            + " fields and elements, whatever is called (" + sum + ")" : wrong + " take too much");
        if (wrong != 0) {
            System.exit(1);
        }
    }
}
