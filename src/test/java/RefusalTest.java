import java.util.ArrayList;
import java.util.Arrays;
import java.util.List;

/**
 * "BAD: a number is none that is told. NO: not as things stand. NONE: there is none. FULL. Of several the first;
 * nothing changes then." Each number of each call at the last value that is told and at the first that is not, on both
 * sides; and each refusal on one of two twins, which have to stay alike in all that can be asked of them.
 */
public final class RefusalTest {
    private static final int BAD = -1, NO = -2, FULL = -3, NONE = -4;
    private static final int LOW = Integer.MIN_VALUE, HIGH = Integer.MAX_VALUE;

    private static int wrong = 0;

    private interface Call {
        int on(ToastBelt x, int[] a);
    }

    /** A way to come to a state; made anew for each twin. */
    private interface Way {
        ToastBelt come();
    }

    /** A call with the least and the most of each of its numbers. */
    private record Ranged(String name, Call call, int[][] ranges) { }

    private static void due(String what, int got, int want) {
        if (got != want) {
            wrong++;
            System.out.println(what + " answered " + got + ", due is " + want);
        }
    }

    private static void holds(String what, boolean so) {
        if (!so) {
            wrong++;
            System.out.println("not so: " + what);
        }
    }

    private static void write(ToastBelt x, String text) {
        for (int i = 0; i < text.length(); i++) {
            x.write(text.charAt(i));
        }
    }

    private static ToastBelt laid(String text) {
        ToastBelt x = new ToastBelt();
        write(x, text);
        holds(text + " is laid", x.lay() > 0);
        return x;
    }

    // ---- states

    private static ToastBelt alone() {
        return laid("l2;g1,0,99;");
    }

    private static ToastBelt nine() {
        ToastBelt x = laid("l6;k2;h20,30;g0,0,99;g1,0,99;g2,0,99;g3,0,99;g0,0,99;g1,0,99;g2,0,99;g3,0,99;g0,0,99;");
        x.putIn(0, 0);
        x.putIn(8, 1);
        x.pass(3);
        x.putIn(7, 1);
        return x;
    }

    /** Slice 0 lies on the tray, 1 is eaten by guest 2, 2 is in place 0 of lane 0, 3 is in its hand. */
    private static ToastBelt midway() {
        ToastBelt x = laid("l4;k2;h10,20;g0,0,99;g0,5,25;g0,40,41;g1,0,99;");
        x.wipe();
        write(x, "l5;g1,2");
        x.putIn(0, 0);
        x.putIn(1, 1);
        x.pass(2);
        x.keep();
        x.take(2, 1);
        x.knob(3);
        x.putIn(2, 0);
        x.seen(0, 1, 4, 9);
        x.seen(1, 1, 4, 4);
        return x;
    }

    /** All that has a limit is at it: letters, moments, what can be undone, is seen, is kept. */
    private static ToastBelt brimful() {
        ToastBelt x = laid("l2;k9;h10,10;g0,0,99;g0,20,30;");
        write(x, "k3;".repeat(66).substring(0, 200 - x.count(11)));
        x.putIn(0, 0);
        x.pass(1);
        for (int i = 0; i < 16; i++) {
            x.pass(60);
        }
        x.keep();
        x.pass(38);
        x.keep();
        x.take(1, 0);
        for (int i = 0; i < 6; i++) {
            x.seen(i % 4, i % 2, 1 + i, 10 * i);
        }
        return x;
    }

    // ---- all that can be asked

    private static void addCounts(ToastBelt x, List<Integer> told) {
        for (int what = 0; what < 12; what++) {
            told.add(x.count(what));
        }
    }

    private static void addSlices(ToastBelt x, List<Integer> told) {
        for (int g = 0; g < x.count(0); g++) {
            for (int what : new int[] {0, 2, 3, 4}) {
                told.add(x.slice(g, what));
            }
        }
    }

    private static List<Integer> asItStands(Way way, Call first) {
        List<Integer> told = new ArrayList<>();
        ToastBelt x = way.come();
        first.on(x, null);
        addCounts(x, told);
        addSlices(x, told);
        for (int g = 0; g < x.count(0); g++) {
            for (int what = 0; what < 4; what++) {
                told.add(x.guest(g, what));
            }
            told.add(x.slice(g, 1));
            told.add(x.slice(g, 5));
            told.add(x.falls(g));
            told.add(x.willBe(g));
            told.add(x.share(g));
        }
        told.addAll(List.of(x.fault(), x.content(), x.share(-1), x.round(), x.hot(0), x.hot(1), x.morning(77, 40, 0)));
        told.add(x.forget());
        return told;
    }

    private static List<Integer> asUndone(Way way, Call first) {
        List<Integer> told = new ArrayList<>();
        ToastBelt x = way.come();
        first.on(x, null);
        for (int more = 0; more >= 0;) {
            more = x.undo();
            told.add(more);
            addCounts(x, told);
            if (x.count(0) < 5) {
                addSlices(x, told);
            }
        }
        return told;
    }

    private static List<Integer> asKept(Way way, Call first) {
        List<Integer> told = new ArrayList<>();
        ToastBelt x = way.come();
        first.on(x, null);
        for (int more = 0; more >= 0;) {
            more = x.back();
            told.add(more);
            addCounts(x, told);
            addSlices(x, told);
        }
        return told;
    }

    private static List<Integer> asWritten(Way way, Call first) {
        List<Integer> told = new ArrayList<>();
        ToastBelt x = way.come();
        first.on(x, null);
        told.add(x.lay());
        addCounts(x, told);
        // The letters that stood there still do: this ends the text of midway() without a fault.
        write(x, ",3;");
        told.add(x.fault());
        told.add(x.lay());
        addCounts(x, told);
        told.add(x.guest(0, 2));
        return told;
    }

    private static final Call NOTHING = (x, a) -> 0;

    private static void changesNothing(String name, Way way, Call call) {
        holds(name + " leaves all as it stands", asItStands(way, call).equals(asItStands(way, NOTHING)));
        holds(name + " leaves what can be undone", asUndone(way, call).equals(asUndone(way, NOTHING)));
        holds(name + " leaves what is kept", asKept(way, call).equals(asKept(way, NOTHING)));
        holds(name + " leaves the text", asWritten(way, call).equals(asWritten(way, NOTHING)));
    }

    // ---- BAD

    private static int[][] ranges(int... ends) {
        int[][] pairs = new int[ends.length / 2][];
        for (int i = 0; i < pairs.length; i++) {
            pairs[i] = new int[] {ends[2 * i], ends[2 * i + 1]};
        }
        return pairs;
    }

    private static Ranged[] calls(int guests) {
        int last = guests - 1;
        return new Ranged[] {
            new Ranged("write", (x, a) -> x.write(a[0]), ranges(32, 126)),
            new Ranged("guest", (x, a) -> x.guest(a[0], a[1]), ranges(0, last, 0, 3)),
            new Ranged("slice", (x, a) -> x.slice(a[0], a[1]), ranges(0, last, 0, 5)),
            new Ranged("putIn", (x, a) -> x.putIn(a[0], a[1]), ranges(0, last, 0, 1)),
            new Ranged("pass", (x, a) -> x.pass(a[0]), ranges(1, 60)),
            new Ranged("knob", (x, a) -> x.knob(a[0]), ranges(1, 9)),
            new Ranged("take", (x, a) -> x.take(a[0], a[1]), ranges(0, last, 0, last)),
            new Ranged("falls", (x, a) -> x.falls(a[0]), ranges(0, last)),
            new Ranged("willBe", (x, a) -> x.willBe(a[0]), ranges(0, last)),
            new Ranged("knobFor", (x, a) -> x.knobFor(a[0], a[1]), ranges(0, last, 0, 1)),
            new Ranged("often", (x, a) -> x.often(a[0], a[1]), ranges(0, last, 0, 1)),
            new Ranged("waits", (x, a) -> x.waits(a[0], a[1]), ranges(0, last, 0, 1)),
            new Ranged("harm", (x, a) -> x.harm(a[0]), ranges(1, 9)),
            new Ranged("share", (x, a) -> x.share(a[0]), ranges(-1, last)),
            new Ranged("seen", (x, a) -> x.seen(a[0], a[1], a[2], a[3]), ranges(0, 3, 0, 1, 1, 9, 0, 999)),
            new Ranged("hot", (x, a) -> x.hot(a[0]), ranges(0, 1)),
            new Ranged("left", (x, a) -> x.left(a[0], a[1], a[2]), ranges(0, last, 0, 8, 0, 1)),
            new Ranged("morning", (x, a) -> x.morning(a[0], a[1], a[2]), ranges(0, 9999, 1, 40, 0, 1)),
            new Ranged("count", (x, a) -> x.count(a[0]), ranges(0, 11))};
    }

    /** All numbers at an end of what is told, in every mixture. */
    private static List<int[]> corners(int[][] ranges) {
        List<int[]> all = new ArrayList<>();
        for (int mix = 0; mix < 1 << ranges.length; mix++) {
            int[] a = new int[ranges.length];
            for (int i = 0; i < a.length; i++) {
                a[i] = ranges[i][mix >> i & 1];
            }
            all.add(a);
        }
        return all;
    }

    /** These are told, so they are never BAD, though it may be NO, NONE or FULL. */
    private static void toldNumbers(String state, Way way, Ranged r) {
        for (int[] corner : corners(r.ranges())) {
            String name = state + r.name() + Arrays.toString(corner);
            holds(name + " is not BAD", r.call().on(way.come(), corner) != BAD);
            for (int i = 0; i < corner.length; i++) {
                int[] a = corner.clone();
                for (int n = r.ranges()[i][0]; n <= Math.min(r.ranges()[i][1], 60); n++) {
                    a[i] = n;
                    holds(state + r.name() + Arrays.toString(a) + " is not BAD", r.call().on(way.come(), a) != BAD);
                }
            }
        }
    }

    private static void untoldNumbers(String state, Way way, Ranged r) {
        for (int[] corner : corners(r.ranges())) {
            for (int i = 0; i < corner.length; i++) {
                int least = r.ranges()[i][0], most = r.ranges()[i][1];
                for (int n : new int[] {least - 1, most + 1, least - 256, most + 256, LOW, HIGH}) {
                    int[] a = corner.clone();
                    a[i] = n;
                    due(state + r.name() + Arrays.toString(a), r.call().on(way.come(), a), BAD);
                }
            }
        }
        for (int i = 0; i < r.ranges().length; i++) {
            for (int n : new int[] {r.ranges()[i][0] - 1, r.ranges()[i][1] + 1}) {
                int[] a = corners(r.ranges()).get(0);
                a[i] = n;
                changesNothing(state + r.name() + Arrays.toString(a), way, (x, none) -> r.call().on(x, a));
            }
        }
    }

    private static void numbers() {
        String[] names = {"new: ", "alone: ", "midway: ", "nine: ", "brimful: "};
        Way[] ways = {ToastBelt::new, RefusalTest::alone, RefusalTest::midway, RefusalTest::nine, RefusalTest::brimful};
        int[] guests = {6, 1, 4, 9, 2};
        for (int i = 0; i < ways.length; i++) {
            due(names[i] + "count(0)", ways[i].come().count(0), guests[i]);
            for (Ranged r : calls(guests[i])) {
                toldNumbers(names[i], ways[i], r);
                untoldNumbers(names[i], ways[i], r);
            }
        }
    }

    // ---- NO, NONE, FULL

    private static void refused(String name, Way way, int want, Call call) {
        due(name, call.on(way.come(), null), want);
        ToastBelt twice = way.come();
        call.on(twice, null);
        due(name + ", a second time", call.on(twice, null), want);
        changesNothing(name, way, call);
    }

    private static void notAsThingsStand() {
        Way now = RefusalTest::midway;
        refused("lay(), a fault", now, NO, (x, a) -> x.lay());
        refused("lay(), no letter", ToastBelt::new, NO, (x, a) -> x.lay());
        refused("putIn(0, 0), the place taken", now, NO, (x, a) -> x.putIn(0, 0));
        refused("putIn(3, 0), the place taken", now, NO, (x, a) -> x.putIn(3, 0));
        refused("putIn(1, 1), eaten", now, NO, (x, a) -> x.putIn(1, 1));
        refused("putIn(2, 1), on the belt", now, NO, (x, a) -> x.putIn(2, 1));
        refused("take(1, 1), eaten", now, NO, (x, a) -> x.take(1, 1));
        refused("take(2, 0), he has eaten", now, NO, (x, a) -> x.take(2, 0));
        refused("take(3, 0), another kind", now, NO, (x, a) -> x.take(3, 0));
        refused("take(3, 3), in his hand", now, NO, (x, a) -> x.take(3, 3));
        refused("take(0, 2), on the belt", now, NO, (x, a) -> x.take(0, 2));
        refused("undo(), nothing done", ToastBelt::new, NO, (x, a) -> x.undo());
        refused("back(), nothing kept", ToastBelt::new, NO, (x, a) -> x.back());
        refused("left(1, 0, 0), eaten", now, NO, (x, a) -> x.left(1, 0, 0));
        refused("left(2, 0, 0), on the belt", now, NO, (x, a) -> x.left(2, 0, 0));
        refused("left(3, 0, 1), in his hand", now, NO, (x, a) -> x.left(3, 0, 1));
        for (int g = 1; g <= 2; g++) {
            int s = g;
            refused("knobFor(" + s + ", 1)", now, NO, (x, a) -> x.knobFor(s, 1));
            refused("often(" + s + ", 1)", now, NO, (x, a) -> x.often(s, 1));
            refused("waits(" + s + ", 1)", now, NO, (x, a) -> x.waits(s, 1));
        }
        refused("pass(1), 1000 in all", RefusalTest::brimful, NO, (x, a) -> x.pass(1));
        refused("pass(60), 1059 in all", RefusalTest::brimful, NO, (x, a) -> x.pass(60));
        refused("lay(), a fault of 200 letters", RefusalTest::brimful, NO, (x, a) -> x.lay());
    }

    private static void thereIsNone() {
        Way now = RefusalTest::midway;
        refused("guest(0, 3)", now, NONE, (x, a) -> x.guest(0, 3));
        for (int s : new int[] {0, 1, 3}) {
            refused("slice(" + s + ", 1)", now, NONE, (x, a) -> x.slice(s, 1));
            refused("slice(" + s + ", 2)", now, NONE, (x, a) -> x.slice(s, 2));
            refused("falls(" + s + ")", now, NONE, (x, a) -> x.falls(s));
        }
        refused("slice(0, 4)", now, NONE, (x, a) -> x.slice(0, 4));
        refused("willBe(1)", now, NONE, (x, a) -> x.willBe(1));
        refused("share(2)", now, NONE, (x, a) -> x.share(2));
        refused("hot(1)", RefusalTest::brimful, NONE, (x, a) -> x.hot(1));
        Way never = () -> laid("l4;k2;h10,20;g0,99,0;");
        refused("knobFor(0, 0)", never, NONE, (x, a) -> x.knobFor(0, 0));
        refused("often(0, 0)", never, NONE, (x, a) -> x.often(0, 0));
        refused("waits(0, 0)", never, NONE, (x, a) -> x.waits(0, 0));
        refused("fault()", never, NONE, (x, a) -> x.fault());
        refused("fault(), no letter", ToastBelt::new, NONE, (x, a) -> x.fault());
    }

    private static void allIsFull() {
        Way now = RefusalTest::brimful;
        refused("write('g')", now, FULL, (x, a) -> x.write('g'));
        refused("write(32)", now, FULL, (x, a) -> x.write(32));
        refused("write(126)", now, FULL, (x, a) -> x.write(126));
        refused("seen(0, 0, 1, 0)", now, FULL, (x, a) -> x.seen(0, 0, 1, 0));
        refused("seen(3, 1, 9, 999)", now, FULL, (x, a) -> x.seen(3, 1, 9, 999));
        refused("keep()", now, FULL, (x, a) -> x.keep());
    }

    private static void ofSeveralTheFirst() {
        Way full = RefusalTest::brimful;
        Way now = RefusalTest::midway;
        refused("write(31), BAD and FULL", full, BAD, (x, a) -> x.write(31));
        refused("write(127), BAD and FULL", full, BAD, (x, a) -> x.write(127));
        refused("seen(4, 0, 1, 0), BAD and FULL", full, BAD, (x, a) -> x.seen(4, 0, 1, 0));
        refused("seen(0, 2, 1, 0), BAD and FULL", full, BAD, (x, a) -> x.seen(0, 2, 1, 0));
        refused("seen(0, 0, 10, 0), BAD and FULL", full, BAD, (x, a) -> x.seen(0, 0, 10, 0));
        refused("seen(0, 0, 1, 1000), BAD and FULL", full, BAD, (x, a) -> x.seen(0, 0, 1, 1000));
        refused("pass(61), BAD and NO", full, BAD, (x, a) -> x.pass(61));
        refused("putIn(2, 2), BAD and NO", now, BAD, (x, a) -> x.putIn(2, 2));
        refused("putIn(1, -1), BAD and NO", now, BAD, (x, a) -> x.putIn(1, -1));
        refused("putIn(4, 0), BAD and NO", now, BAD, (x, a) -> x.putIn(4, 0));
        refused("take(2, 4), BAD and NO", now, BAD, (x, a) -> x.take(2, 4));
        refused("take(-1, 3), BAD and NO", now, BAD, (x, a) -> x.take(-1, 3));
        refused("knobFor(1, 2), BAD and NO", now, BAD, (x, a) -> x.knobFor(1, 2));
        refused("often(2, -1), BAD and NO", now, BAD, (x, a) -> x.often(2, -1));
        refused("waits(1, 2), BAD and NO", now, BAD, (x, a) -> x.waits(1, 2));
        refused("left(1, 9, 0), BAD and NO", now, BAD, (x, a) -> x.left(1, 9, 0));
        refused("left(3, -1, 0), BAD and NO", now, BAD, (x, a) -> x.left(3, -1, 0));
        refused("left(2, 0, 2), BAD and NO", now, BAD, (x, a) -> x.left(2, 0, 2));
    }

    /** What is only asked changes nothing, whatever the answer. */
    private static void asked() {
        for (Ranged r : calls(4)) {
            if (List.of("write", "putIn", "pass", "knob", "take", "seen").contains(r.name())) {
                continue;
            }
            for (int[] corner : corners(r.ranges())) {
                changesNothing(r.name() + Arrays.toString(corner), RefusalTest::midway, (x, a) -> r.call().on(x, corner));
            }
        }
        changesNothing("fault()", RefusalTest::midway, (x, a) -> x.fault());
        changesNothing("content()", RefusalTest::midway, (x, a) -> x.content());
        changesNothing("round()", RefusalTest::midway, (x, a) -> x.round());
    }

    public static void main(String[] args) {
        numbers();
        notAsThingsStand();
        thereIsNone();
        allIsFull();
        ofSeveralTheFirst();
        asked();
        System.out.println(wrong == 0 ? "all refusals are as told" : wrong + " refusals are not as told");
        if (wrong != 0) {
            System.exit(1);
        }
    }
}
