/** For each promise of the document: ordinary inputs, its edges, wrong inputs; all worked out by hand. */
public final class PromiseTest {
    private static final int BAD = -1, NO = -2, FULL = -3, NONE = -4;
    private static final int LOW = Integer.MIN_VALUE, HIGH = Integer.MAX_VALUE;

    private static int wrong = 0;
    private static int promise = 0;

    private static void due(String call, int got, int want) {
        if (got != want) {
            wrong++;
            System.out.println("promise " + promise + ": " + call + " answered " + got + ", due is " + want);
        }
    }

    private static void write(ToastBelt x, String text) {
        for (int i = 0; i < text.length(); i++) {
            due("write in " + text, x.write(text.charAt(i)) > 0 ? 1 : 0, 1);
        }
    }

    private static ToastBelt laid(String text) {
        ToastBelt x = new ToastBelt();
        write(x, text);
        due("lay of " + text, x.lay() > 0 ? 1 : 0, 1);
        return x;
    }

    private static void counts(ToastBelt x, int... want) {
        for (int what = 0; what < want.length; what++) {
            due("count(" + what + ")", x.count(what), want[what]);
        }
    }

    private static void newObject() {
        promise = 1;
        ToastBelt x = new ToastBelt();
        counts(x, 6, 18, 3, 8, 0, 0, 0, 0, 0, 0, 0, 0);
        int[][] guests = {{0, 40, 60}, {0, 50, 80}, {1, 20, 40}, {2, 30, 60}, {3, 60, 99}, {0, 10, 45}};
        for (int g = 0; g < guests.length; g++) {
            for (int what = 0; what < 3; what++) {
                due("guest(" + g + ", " + what + ")", x.guest(g, what), guests[g][what]);
            }
            due("guest(g, 3)", x.guest(g, 3), NONE);
            due("slice(g, 0)", x.slice(g, 0), 0);
            due("slice(g, 3)", x.slice(g, 3), 0);
        }
        x.pass(4);
        due("heat behind four moments", x.count(3), 12);
        x.pass(1);
        due("heat behind five moments", x.count(3), 12);
        due("BAD", ToastBelt.BAD, BAD);
        due("NO", ToastBelt.NO, NO);
        due("FULL", ToastBelt.FULL, FULL);
        due("NONE", ToastBelt.NONE, NONE);
    }

    private static void writing() {
        promise = 2;
        ToastBelt x = new ToastBelt();
        due("write(32)", x.write(32), 1);
        due("write(126)", x.write(126), 2);
        for (int letter : new int[] {31, 127, 0, -1, LOW, HIGH, 256 + 65}) {
            due("write(" + letter + ")", x.write(letter), BAD);
        }
        due("count(11)", x.count(11), 2);
        for (int i = 3; i <= 200; i++) {
            due("write('g')", x.write('g'), i);
        }
        due("the 201st", x.write('g'), FULL);
        due("the 201st, a wrong one", x.write(31), BAD);
        due("count(11)", x.count(11), 200);
    }

    private static void wiping() {
        promise = 3;
        ToastBelt x = new ToastBelt();
        due("wipe() of nothing", x.wipe(), 0);
        write(x, "l2;g0,0,9;");
        x.lay();
        due("wipe()", x.wipe(), 10);
        due("wipe() again", x.wipe(), 0);
        due("count(11)", x.count(11), 0);
        due("what is laid stays", x.count(1), 2);
        due("write behind wipe", x.write('k'), 1);
    }

    private static void faulty(String text, int want) {
        ToastBelt x = new ToastBelt();
        write(x, text);
        due("fault() of " + text, x.fault(), want);
        due("fault() again of " + text, x.fault(), want);
        due("fault() changes nothing", x.count(0) * 100 + x.count(1), 618);
    }

    private static void faults() {
        promise = 4;
        String[] right = {
            "", "l2;", "l40;", "l02;", "k1;", "k9;", "k09;", "h0,0;", "h30,30;", "h30,0;", "g0,0,0;", "g3,99,99;",
            "g1,90,10;", "g00,05,06;", "l2;l40;k3;k4;", "g0,1,2;k3;g0,1,2;l9;"};
        for (String text : right) {
            faulty(text, NONE);
        }
        String[] wrongs = {
            "l1;", "l41;", "l0;", "l;", "l", "l2", "l2,", "l2,3;", "l018;", "l-2;", "l 2;", "L2;", " l2;", ";", ",", "2",
            "k0;", "k10;", "k;", "k1,1;", "h31,0;", "h0,31;", "h0;", "h0,;", "h,0;", "h1,2,3;", "h0 0;", "h0;0;", "h0,0",
            "g4,0,0;", "g0,0;", "g0,0,0", "g0,0,0,0;", "g0,100,0;", "g0,0,100;", "g0,,0;", "g", "x1;", "l2.", "l2:",
            "l/;", "l1/;"};
        for (String text : wrongs) {
            faulty(text, 0);
            faulty("g0,1,2;" + text, 7);
        }
        faulty("l2;k10;l1;", 3);
        faulty("l2; k3;", 3);
        faulty("l2;;", 3);
        String guest = "g0,0,9;";
        String nine = guest + guest + guest + guest + guest + guest + guest + guest + guest;
        faulty(nine, NONE);
        faulty(nine + guest, 63);
        faulty(nine + "k3;" + guest, 66);
        // The longest text, its last item whole, then cut off behind a figure and behind its letter.
        String long198 = "k3;".repeat(66);
        faulty(long198.substring(3) + "h1,2;", NONE);
        faulty(long198 + "k3", 198);
        faulty(long198.substring(3) + "l12;k", 199);
        ToastBelt x = new ToastBelt();
        write(x, "l25;");
        x.wipe();
        write(x, "l2");
        due("fault() of what was wiped behind it", x.fault(), 0);
    }

    private static void laying() {
        promise = 5;
        ToastBelt x = new ToastBelt();
        due("lay() of nothing", x.lay(), NO);
        write(x, "l5;k2;h3,4;");
        due("lay() without guests", x.lay(), NO);
        write(x, "g2,7,8;g4");
        due("lay() with a fault", x.lay(), NO);
        counts(x, 6, 18, 3, 8, 0, 0, 0, 0, 0, 0, 0, 20);
        x.wipe();
        write(x, "l5;k2;h3,4;g2,7,8;g1,1,2;l6;k7;h1,2;");
        x.putIn(0, 0);
        x.pass(6);
        x.take(0, 0);
        x.putIn(1, 1);
        x.knob(9);
        x.seen(0, 0, 1, 1);
        x.keep();
        counts(x, 6, 18, 9, 8, 6, 1, 0, 1, 1, 5, 1, 36);
        due("lay()", x.lay(), 2);
        counts(x, 2, 6, 7, 1, 0, 0, 0, 0, 0, 0, 0, 36);
        due("undo() behind lay()", x.undo(), NO);
        due("back() behind lay()", x.back(), NO);
        due("guest(0, 3) behind lay()", x.guest(0, 3), NONE);
        due("slice(0, 0) behind lay()", x.slice(0, 0), 0);
        due("slice(0, 3) behind lay()", x.slice(0, 3), 0);
        due("slice(0, 4) behind lay()", x.slice(0, 4), NONE);
        due("guest(0, 0)", x.guest(0, 0), 2);
        x.pass(5);
        due("the last M holds", x.count(3), 2);
        due("lay() of the same text", x.lay(), 2);
        counts(x, 2, 6, 7, 1, 0, 0, 0, 0, 0, 0, 0, 36);
        x.wipe();
        write(x, "g0,1,2;");
        due("lay() without l, k, h", x.lay(), 1);
        counts(x, 1, 18, 3, 8, 0);
        x.pass(9);
        due("12 at most without h, behind another", x.count(3), 12);
        ToastBelt y = laid("g3,1,2;");
        counts(y, 1, 18, 3, 8, 0);
        y.pass(9);
        due("12 at most without h", y.count(3), 12);
    }

    private static void guests() {
        promise = 6;
        ToastBelt x = laid("l2;k9;h10,10;g1,7,9;g1,4,5;");
        due("guest(0, 0)", x.guest(0, 0), 1);
        due("guest(0, 1)", x.guest(0, 1), 7);
        due("guest(0, 2)", x.guest(0, 2), 9);
        due("guest(1, 1)", x.guest(1, 1), 4);
        x.putIn(1, 1);
        x.pass(1);
        x.take(0, 1);
        due("guest(0, 3)", x.guest(0, 3), 1);
        due("guest(1, 3)", x.guest(1, 3), NONE);
        int[][] bad = {{-1, 0}, {2, 0}, {LOW, 0}, {HIGH, 0}, {0, -1}, {0, 4}, {1, LOW}, {1, HIGH}, {2, 4}};
        for (int[] b : bad) {
            due("guest(" + b[0] + ", " + b[1] + ")", x.guest(b[0], b[1]), BAD);
        }
    }

    private static void sliceIs(ToastBelt x, int s, int... want) {
        for (int what = 0; what < want.length; what++) {
            due("slice(" + s + ", " + what + ")", x.slice(s, what), want[what]);
        }
    }

    private static void slices() {
        promise = 7;
        ToastBelt x = laid("l5;k3;h10,10;g0,20,20;g0,12,23;");
        sliceIs(x, 0, 0, NONE, NONE, 0, NONE, 0);
        x.putIn(0, 1);
        sliceIs(x, 0, 1, 1, 0, 0, NONE, 0);
        x.pass(1);
        sliceIs(x, 0, 1, 1, 3, 10, NONE, 0);
        x.pass(1);
        sliceIs(x, 0, 2, NONE, NONE, 20, NONE, 1);
        x.putIn(1, 0);
        x.pass(1);
        sliceIs(x, 1, 1, 0, 3, 12, NONE, 1);
        x.pass(1);
        sliceIs(x, 1, 2, NONE, NONE, 24, NONE, 0);
        x.take(1, 0);
        sliceIs(x, 0, 3, NONE, NONE, 20, 1, 1);
        int[][] bad = {{-1, 0}, {2, 0}, {LOW, 0}, {HIGH, 0}, {0, -1}, {0, 6}, {1, LOW}, {1, HIGH}};
        for (int[] b : bad) {
            due("slice(" + b[0] + ", " + b[1] + ")", x.slice(b[0], b[1]), BAD);
        }
        ToastBelt y = laid("g0,0,5;g0,9,0;");
        due("0 brown is right for 0 to 5", y.slice(0, 5), 1);
        due("nothing is right for 9 to 0", y.slice(1, 5), 0);
    }

    private static void puttingIn() {
        promise = 8;
        ToastBelt x = laid("l4;k2;h10,10;g0,0,99;g0,0,99;g0,0,99;");
        int[][] bad = {{-1, 0}, {3, 0}, {0, -1}, {0, 2}, {LOW, LOW}, {HIGH, HIGH}};
        for (int[] b : bad) {
            due("putIn(" + b[0] + ", " + b[1] + ")", x.putIn(b[0], b[1]), BAD);
        }
        due("putIn(0, 0)", x.putIn(0, 0), 1);
        due("putIn(1, 0), taken", x.putIn(1, 0), NO);
        due("putIn(0, 1), on the belt", x.putIn(0, 1), NO);
        due("putIn(0, 2), on the belt", x.putIn(0, 2), BAD);
        due("putIn(1, 1)", x.putIn(1, 1), 2);
        due("what can be undone", x.count(9), 2);
        x.pass(1);
        due("putIn(2, 0), free again", x.putIn(2, 0), 3);
        x.pass(1);
        due("on the belt", x.count(5), 1);
        due("putIn(0, 0) again", x.putIn(0, 0), 2);
        sliceIs(x, 0, 1, 0, 0, 23);
        x.pass(2);
        due("brown of twice", x.slice(0, 3) > 23 ? 1 : 0, 1);
        x.take(0, 1);
        due("putIn(1, 0), eaten", x.putIn(1, 0), NO);
        due("putIn(0, 0), its guest has eaten another", x.putIn(0, 0), 1);
    }

    private static void browns(String text, int lane, int want) {
        ToastBelt x = laid("l2;k9;" + text);
        x.putIn(0, lane);
        due("pass(1) of " + text, x.pass(1), 1);
        due("brown of " + text, x.slice(0, 3), want);
    }

    private static void heatBehindOne(String heat, int riding, int want) {
        ToastBelt x = laid("l40;k1;" + heat + "g0,0,9;g0,0,9;g0,0,9;g0,0,9;g0,0,9;");
        for (int g = 0; g < riding; g++) {
            // Two lanes take two at once; a moment has to go by for more.
            if (x.putIn(g, g % 2) == NO) {
                x.pass(1);
                x.putIn(g, g % 2);
            }
        }
        int before = x.count(3);
        x.pass(1);
        due("loss of " + heat + " by " + riding, before - x.count(3), want);
    }

    private static void passing() {
        promise = 9;
        browns("h9,9;g0,0,0;", 0, 11);
        browns("h9,9;g0,0,0;", 1, 9);
        browns("h9,9;g1,0,0;", 0, 5);
        browns("h9,9;g1,0,0;", 1, 4);
        browns("h9,9;g2,0,0;", 0, 8);
        browns("h9,9;g2,0,0;", 1, 6);
        browns("h9,9;g3,0,0;", 0, 22);
        browns("h9,9;g3,0,0;", 1, 18);
        browns("h2,9;g2,0,0;", 1, 0);
        browns("h0,9;g2,0,0;", 0, 0);
        browns("h2,9;g2,0,0;", 0, 1);
        heatBehindOne("h9,20;", 0, -1);
        heatBehindOne("h20,20;", 0, 0);
        heatBehindOne("h21,20;", 0, 0);
        heatBehindOne("h9,20;", 1, 0);
        heatBehindOne("h9,20;", 2, 1);
        heatBehindOne("h9,20;", 3, 1);
        heatBehindOne("h9,20;", 4, 2);
        heatBehindOne("h9,20;", 5, 2);
        heatBehindOne("h0,20;", 2, 0);
        heatBehindOne("h2,20;", 4, 1);
        ToastBelt x = laid("l4;k2;h10,10;g0,0,9;g0,0,9;");
        x.putIn(0, 0);
        x.putIn(1, 1);
        due("pass(1)", x.pass(1), 0);
        sliceIs(x, 0, 1, 0, 2, 12);
        sliceIs(x, 1, 1, 1, 2, 10);
        due("the heat", x.count(3), 9);
        due("place 4 of 4 is the tray: pass(1)", x.pass(1), 2);
        sliceIs(x, 0, 2, NONE, NONE, 23);
        due("those that fell have cooled too", x.count(3), 8);
        for (int n : new int[] {0, -1, 61, LOW, HIGH}) {
            due("pass(" + n + ")", x.pass(n), BAD);
        }
        due("moments", x.count(4), 2);
        for (int i = 0; i < 16; i++) {
            due("pass(60)", x.pass(60), 0);
        }
        due("pass(38), 1000 in all", x.pass(38), NO);
        due("pass(61), beyond all", x.pass(61), BAD);
        due("pass(37), 999 in all", x.pass(37), 0);
        due("pass(1), 1000 in all", x.pass(1), NO);
        due("moments", x.count(4), 999);
    }

    private static void knobs() {
        promise = 10;
        ToastBelt x = new ToastBelt();
        due("knob(9)", x.knob(9), 3);
        due("knob(1)", x.knob(1), 9);
        for (int k : new int[] {0, 10, -1, LOW, HIGH}) {
            due("knob(" + k + ")", x.knob(k), BAD);
        }
        due("count(2)", x.count(2), 1);
        due("knob(1) again", x.knob(1), 1);
        due("what can be undone", x.count(9), 3);
        x.putIn(0, 0);
        x.pass(1);
        due("place by knob 1", x.slice(0, 2), 1);
        x.knob(5);
        x.pass(1);
        due("place by knob 5", x.slice(0, 2), 6);
    }

    private static void taking() {
        promise = 11;
        ToastBelt x = laid("l2;k2;h10,10;g0,10,10;g0,11,99;g1,0,99;g0,12,12;g0,0,9;");
        int[][] bad = {{-1, 0}, {5, 0}, {0, -1}, {0, 5}, {LOW, 0}, {0, HIGH}};
        for (int[] b : bad) {
            due("take(" + b[0] + ", " + b[1] + ")", x.take(b[0], b[1]), BAD);
        }
        due("take(0, 0) in his hand", x.take(0, 0), NO);
        x.putIn(0, 1);
        x.putIn(1, 0);
        due("take(0, 0) on the belt", x.take(0, 0), NO);
        x.pass(1);
        due("take(2, 0), another kind", x.take(2, 0), NO);
        due("take(1, 0), too pale", x.take(1, 0), 0);
        due("take(0, 0), eaten", x.take(0, 0), NO);
        due("take(1, 1), he has eaten", x.take(1, 1), NO);
        due("take(3, 1), right", x.take(3, 1), 1);
        sliceIs(x, 0, 3, NONE, NONE, 10, 1);
        sliceIs(x, 1, 3, NONE, NONE, 12, 3);
        due("guest(3, 3)", x.guest(3, 3), 1);
        counts(x, 5, 2, 2, 9, 1, 0, 0, 2, 0, 5);
    }

    private static void undoing() {
        promise = 12;
        ToastBelt x = new ToastBelt();
        due("undo() of nothing", x.undo(), NO);
        x.putIn(0, 0);
        x.pass(6);
        x.take(0, 0);
        x.knob(7);
        x.knob(0);
        x.take(0, 0);
        x.seen(0, 0, 1, 1);
        x.write('l');
        due("count(9)", x.count(9), 4);
        due("undo() of knob", x.undo(), 3);
        due("the knob", x.count(2), 3);
        due("undo() of take", x.undo(), 2);
        sliceIs(x, 0, 2, NONE, NONE, 60, NONE);
        due("guest(0, 3)", x.guest(0, 3), NONE);
        due("undo() of pass", x.undo(), 1);
        sliceIs(x, 0, 1, 0, 0, 0);
        due("moments", x.count(4), 0);
        due("undo() of putIn", x.undo(), 0);
        sliceIs(x, 0, 0, NONE, NONE, 0);
        due("undo()", x.undo(), NO);
        counts(x, 6, 18, 3, 8, 0, 0, 0, 0, 1, 0, 0, 1);
        for (int i = 1; i <= 12; i++) {
            x.pass(i);
            due("count(9)", x.count(9), Math.min(8, i));
        }
        for (int i = 7; i >= 0; i--) {
            due("undo() of the last 8", x.undo(), i);
        }
        due("undo() of the ninth", x.undo(), NO);
        due("moments, 1 to 4 together", x.count(4), 10);
        x.pass(60);
        due("undo() of one", x.undo(), 0);
        due("moments", x.count(4), 10);
    }

    private static void falling() {
        promise = 13;
        ToastBelt x = laid("l7;k3;h9,9;g0,0,99;g0,0,99;");
        due("falls(0) in his hand", x.falls(0), NONE);
        x.putIn(0, 0);
        due("falls(0)", x.falls(0), 3);
        x.pass(1);
        due("falls(0)", x.falls(0), 2);
        x.pass(1);
        due("falls(0)", x.falls(0), 1);
        x.knob(1);
        due("falls(0) by knob 1", x.falls(0), 1);
        x.undo();
        x.undo();
        x.knob(1);
        due("falls(0) by knob 1", x.falls(0), 4);
        x.knob(9);
        due("falls(0) by knob 9", x.falls(0), 1);
        x.pass(1);
        due("falls(0) on the tray", x.falls(0), NONE);
        x.take(1, 0);
        due("falls(0), eaten", x.falls(0), NONE);
        for (int g : new int[] {-1, 2, LOW, HIGH}) {
            due("falls(" + g + ")", x.falls(g), BAD);
        }
    }

    private static void futures() {
        promise = 14;
        ToastBelt x = laid("l6;k2;h10,12;g0,0,99;g1,0,99;g3,0,99;");
        due("willBe(0) in his hand", x.willBe(0), 0);
        x.putIn(0, 0);
        due("willBe(0) alone", x.willBe(0), 36);
        x.putIn(1, 1);
        due("willBe(0) of two", x.willBe(0), 12 + 11 + 10);
        due("willBe(1) of two", x.willBe(1), 5 + 4 + 4);
        x.pass(1);
        x.putIn(2, 1);
        due("willBe(0) of three", x.willBe(0), 12 + 11 + 10);
        due("willBe(2) of three", x.willBe(2), 18 + 16 + 14);
        due("willBe(2) changes nothing", x.slice(2, 3) + x.count(4) * 100, 100);
        x.pass(2);
        due("willBe(0) on the tray", x.willBe(0), 33);
        x.take(0, 0);
        due("willBe(0), eaten", x.willBe(0), NONE);
        for (int g : new int[] {-1, 3, LOW, HIGH}) {
            due("willBe(" + g + ")", x.willBe(g), BAD);
        }
        ToastBelt slow = laid("l40;k1;h1,1;g0,40,40;");
        due("knobFor(0, 1) of 40 moments", slow.knobFor(0, 1), 1);
        slow.putIn(0, 1);
        due("willBe(0) behind 40 moments", slow.willBe(0), 40);
        due("harm(2) of 40 moments", slow.harm(2), 1);
    }

    private static void contents() {
        promise = 15;
        ToastBelt x = laid("l2;k2;h10,10;g0,12,99;g0,10,10;g0,0,9;");
        due("content() at first", x.content(), 0);
        x.putIn(0, 0);
        x.putIn(1, 1);
        x.pass(1);
        due("content() of none", x.content(), 0);
        x.take(2, 0);
        due("content(), too brown", x.content(), 0);
        x.undo();
        x.take(1, 1);
        due("content() of 1", x.content(), 2);
        x.take(0, 0);
        due("content() of 0 and 1", x.content(), 3);
        ToastBelt y = laid("l2;k2;h10,10;g0,0,5;g0,10,10;g0,0,9;");
        y.putIn(0, 1);
        y.pass(1);
        y.take(1, 0);
        due("bits are those who ate", y.content(), 2);
    }

    /** knobFor (promise 16), often (17) or waits (18). */
    private static int askOfThree(ToastBelt x, int g, int lane) {
        return promise == 16 ? x.knobFor(g, lane) : promise == 17 ? x.often(g, lane) : x.waits(g, lane);
    }

    private static void refusals(ToastBelt x, int riding, int eaten) {
        int[][] bad = {{-1, 0}, {2, 0}, {riding, 2}, {riding, -1}, {LOW, 0}, {HIGH, 0}, {0, LOW}, {0, HIGH}};
        for (int[] b : bad) {
            due("of " + b[0] + ", " + b[1], askOfThree(x, b[0], b[1]), BAD);
        }
        due("of one on the belt", askOfThree(x, riding, 1), NO);
        due("of one that is eaten", askOfThree(x, eaten, 1), NO);
    }

    private static ToastBelt oneRidesOneIsEaten() {
        ToastBelt x = laid("l2;k1;h9,9;g0,0,99;g0,0,99;");
        x.putIn(1, 0);
        x.pass(2);
        x.take(1, 1);
        x.putIn(0, 0);
        return x;
    }

    private static void knobsFor() {
        promise = 16;
        // 10 a moment in lane 1: 9 moments at knob 1, 5 at 2, 3 at 3, 3 at 4, 2 at 5 to 8, 1 at 9.
        ToastBelt x = laid("l9;k1;h10,10;g0,30,30;g0,20,40;g0,31,39;g0,10,10;g0,90,99;g0,85,89;");
        due("knobFor(0, 1)", x.knobFor(0, 1), 3);
        due("knobFor(1, 1)", x.knobFor(1, 1), 3);
        due("knobFor(2, 1)", x.knobFor(2, 1), NONE);
        due("knobFor(2, 0)", x.knobFor(2, 0), 3);
        due("knobFor(3, 1)", x.knobFor(3, 1), 9);
        due("knobFor(4, 1)", x.knobFor(4, 1), 1);
        due("knobFor(5, 1)", x.knobFor(5, 1), NONE);
        due("knobFor() changes nothing", x.count(2) * 10 + x.count(9), 10);
        x.putIn(5, 1);
        due("knobFor(0, 1), the place taken, two of them", x.knobFor(0, 1), NONE);
        due("knobFor(1, 1), 10 + 9 + 8", x.knobFor(1, 1), 2);
        x.knob(3);
        x.pass(3);
        x.knob(9);
        due("knobFor(5, 1) from the tray", x.knobFor(5, 1), NONE);
        ToastBelt y = laid("l9;k9;h10,10;g0,40,50;g0,0,9;");
        y.putIn(0, 1);
        y.pass(1);
        due("knobFor(0, 1) from the tray, 10 and 30", y.knobFor(0, 1), 3);
        refusals(oneRidesOneIsEaten(), 0, 1);
    }

    private static void howOften() {
        promise = 17;
        ToastBelt x = laid("l9;k5;h10,10;g0,20,20;g0,61,80;g0,99,0;g0,90,99;g0,0,0;g2,0,69;g2,70,70;g2,71,84;");
        due("often(0, 1)", x.often(0, 1), 1);
        due("often(1, 1)", x.often(1, 1), 4);
        due("often(2, 1), never right", x.often(2, 1), NONE);
        due("often(1, 0), 24 each", x.often(1, 0), 3);
        due("often(3, 1), 80 and 100", x.often(3, 1), NONE);
        due("often(4, 1), right as it is", x.often(4, 1), NONE);
        due("often(5, 1), 14 each", x.often(5, 1), 1);
        due("often(6, 1), five times", x.often(6, 1), 5);
        due("often(7, 1), six times", x.often(7, 1), NONE);
        x.putIn(4, 1);
        due("often(0, 1), 10 and 9, then alone 8 and 8", x.often(0, 1), NONE);
        due("often(1, 1), 19, 35, 51, 67", x.often(1, 1), 4);
        due("often() changes nothing", x.count(5) * 100 + x.count(4) + x.slice(1, 3), 100);
        x.pass(2);
        due("often(4, 1) from the tray", x.often(4, 1), NONE);
        refusals(oneRidesOneIsEaten(), 0, 1);
    }

    private static void waiting() {
        promise = 18;
        ToastBelt x = laid("l4;k2;h0,30;g0,0,0;g0,20,20;g0,60,60;g0,61,99;g0,19,19;g0,40,99;");
        due("waits(0, 1)", x.waits(0, 1), 0);
        due("waits(1, 1), at heat 10", x.waits(1, 1), 10);
        due("waits(1, 0), at heat 8", x.waits(1, 0), 8);
        due("waits(2, 1), at heat 30", x.waits(2, 1), 30);
        due("waits(3, 1), beyond", x.waits(3, 1), NONE);
        due("waits(3, 0), 62 at heat 29", x.waits(3, 0), 29);
        due("waits(4, 1), odd", x.waits(4, 1), NONE);
        due("waits() changes nothing", x.count(3) * 100 + x.count(4), 0);
        x.putIn(0, 1);
        due("waits(1, 1), two moments more", x.waits(1, 1), 12);
        x.pass(1);
        due("waits(2, 1), at heat 30 behind 31", x.waits(2, 1), NONE);
        x.pass(1);
        due("waits(2, 1), at heat 30 behind 30", x.waits(2, 1), 30);
        due("waits(1, 1)", x.waits(1, 1), 10);
        x.pass(60);
        x.putIn(5, 0);
        due("waits(2, 1), the place taken, 30 and 29 till it is alone", x.waits(2, 1), 2);
        refusals(oneRidesOneIsEaten(), 0, 1);
    }

    private static void harming() {
        promise = 19;
        ToastBelt x = laid("l9;k3;h10,10;g0,29,40;g0,20,29;g0,0,99;g0,99,99;");
        due("harm(1) of nothing", x.harm(1), 0);
        x.putIn(0, 0);
        x.putIn(1, 1);
        // At knob 3: 12 + 11 + 10 and 10 + 9 + 8; at 5: 12 + 11 and 10 + 9; at 1: far more; at 4 as at 3.
        due("harm(3), as it is", x.harm(3), 0);
        due("harm(4)", x.harm(4), 0);
        due("harm(5)", x.harm(5), 3);
        due("harm(1)", x.harm(1), 3);
        due("harm(9)", x.harm(9), 3);
        due("harm() changes nothing", x.count(2) * 100 + x.count(4) * 10 + x.count(5), 302);
        x.knob(5);
        due("harm(3), none is right as it is", x.harm(3), 0);
        x.undo();
        x.pass(1);
        x.putIn(3, 1);
        due("harm(9), a slice that never is right", x.harm(9) & 8, 0);
        for (int k : new int[] {0, 10, -1, LOW, HIGH}) {
            due("harm(" + k + ")", x.harm(k), BAD);
        }
        ToastBelt y = laid("l9;k3;h10,10;g0,0,5;g0,0,5;g0,30,30;");
        y.putIn(2, 1);
        y.pass(3);
        due("harm(9), on the tray", y.harm(9), 0);
        y.putIn(0, 1);
        due("harm(9), in hands", y.harm(9), 0);
    }

    private static ToastBelt tray(String guests, int... lanes) {
        ToastBelt x = laid("l2;k9;h10,10;" + guests);
        for (int s = 0; s < lanes.length; s++) {
            if (lanes[s] >= 0) {
                x.putIn(s, lanes[s]);
                x.pass(1);
            }
        }
        return x;
    }

    private static void shares(ToastBelt x, int total, int... want) {
        due("share(-1)", x.share(-1), total);
        for (int g = 0; g < want.length; g++) {
            due("share(" + g + ")", x.share(g), want[g]);
        }
    }

    private static void sharing() {
        promise = 20;
        // Lane 0 makes 12, lane 1 makes 10; one alone does not cool.
        shares(tray("g0,10,12;g0,10,10;", 1, 0), 2, 1, 0);
        shares(tray("g0,10,12;g0,10,12;", 1, 0), 2, 0, 1);
        shares(tray("g0,10,12;g0,10,12;g0,10,12;", 1), 1, 0, NONE, NONE);
        shares(tray("g0,10,12;g0,10,12;g0,10,12;", -1, 1), 1, 1, NONE, NONE);
        shares(tray("g0,12,12;g0,10,12;g0,10,10;", 1, 1, 1), 2, NONE, 0, 1);
        shares(tray("g0,10,12;g0,10,12;g0,10,10;", 1, 0, 0), 3, 1, 2, 0);
        shares(tray("g0,0,99;g2,0,99;", 1, 1), 2, 0, 1);
        shares(tray("g0,0,99;g2,0,99;", -1, 1), 1, NONE, 1);
        shares(tray("g0,11,11;g0,13,99;", 1, 0), 0, NONE, NONE);
        shares(new ToastBelt(), 0, NONE, NONE, NONE, NONE, NONE, NONE);
        ToastBelt x = tray("g0,10,12;g0,10,10;g0,0,99;", 1, 0, 1);
        x.take(0, 1);
        shares(x, 2, NONE, 0, 2);
        due("share() takes nothing", x.count(7) * 10 + x.count(6), 12);
        x.putIn(0, 1);
        shares(x, 1, NONE, 2, NONE);
        for (int g : new int[] {-2, 3, LOW, HIGH}) {
            due("share(" + g + ")", x.share(g), BAD);
        }
        ToastBelt nine = tray("g0,0,99;g0,0,99;g0,0,99;g0,0,99;g0,0,99;g0,0,99;g0,0,99;g0,0,99;g0,10,10;",
            1, 0, 0, 0, 0, 0, 0, 0, 0);
        shares(nine, 9, 1, 2, 3, 4, 5, 6, 7, 8, 0);
        // Slice s is 5 + s brown; guest 8 wants the first one alone, so all others have to move on by one.
        ToastBelt chain = laid("l2;k9;h5,30;g0,5,6;g0,6,7;g0,7,8;g0,8,9;g0,9,10;g0,10,11;g0,11,12;g0,12,13;g0,5,5;");
        for (int s = 0; s < 9; s++) {
            chain.putIn(s, 1);
            chain.pass(2);
        }
        shares(chain, 9, 1, 2, 3, 4, 5, 6, 7, 8, 0);
    }

    private static void going() {
        promise = 21;
        due("round() at first", new ToastBelt().round(), 0);
        due("round() of two", tray("g0,10,12;g0,10,10;", 1, 0).round(), 2);
        due("round() of each his own", tray("g0,10,12;g0,10,12;", 1, 0).round(), 0);
        due("round() of another's", tray("g0,10,12;g0,10,12;", -1, 1).round(), 1);
        due("round() of three", tray("g0,10,12;g0,10,12;g0,10,10;", 1, 0, 0).round(), 3);
        due("round() of one and one", tray("g0,10,10;g0,12,12;g0,10,10;", 1, 1).round(), 1);
    }

    private static void seeing() {
        promise = 22;
        ToastBelt x = new ToastBelt();
        int[][] bad = {{-1, 0, 1, 0}, {4, 0, 1, 0}, {0, -1, 1, 0}, {0, 2, 1, 0}, {0, 0, 0, 0}, {0, 0, 10, 0},
            {0, 0, 1, -1}, {0, 0, 1, 1000}, {LOW, 0, 1, 0}, {0, HIGH, 1, 0}, {0, 0, LOW, 0}, {0, 0, 1, HIGH}};
        for (int[] b : bad) {
            due("seen() of " + b[0] + ", " + b[1] + ", " + b[2] + ", " + b[3], x.seen(b[0], b[1], b[2], b[3]), BAD);
        }
        due("seen(0, 0, 1, 0)", x.seen(0, 0, 1, 0), 1);
        due("seen(3, 1, 9, 999)", x.seen(3, 1, 9, 999), 2);
        for (int i = 3; i <= 6; i++) {
            due("seen(1, 0, 2, 5)", x.seen(1, 0, 2, 5), i);
        }
        due("the seventh", x.seen(1, 0, 2, 5), FULL);
        due("the seventh, a wrong one", x.seen(1, 0, 0, 5), BAD);
        counts(x, 6, 18, 3, 8, 0, 0, 0, 0, 6, 0, 0, 0);
    }

    private static void forgetting() {
        promise = 23;
        ToastBelt x = new ToastBelt();
        due("forget() of nothing", x.forget(), 0);
        x.seen(0, 1, 3, 48);
        x.seen(0, 1, 3, 1);
        due("hot(0)", x.hot(0), 0);
        due("forget()", x.forget(), 2);
        due("forget() again", x.forget(), 0);
        due("count(8)", x.count(8), 0);
        due("hot(0)", x.hot(0), 31);
        due("seen() behind forget()", x.seen(0, 1, 3, 48), 1);
        due("hot(0)", x.hot(0), 1);
    }

    private static void hotIs(String belt, int[][] seen, int many, int least) {
        ToastBelt x = laid(belt + "g0,1,2;");
        for (int[] s : seen) {
            x.seen(s[0], s[1], s[2], s[3]);
        }
        due("hot(0) of " + belt, x.hot(0), many);
        due("hot(1) of " + belt, x.hot(1), least);
    }

    private static void hotness() {
        promise = 24;
        hotIs("l10;", new int[][] {}, 31, 0);
        hotIs("l10;", new int[][] {{0, 1, 3, 40}}, 1, 10);
        hotIs("l10;", new int[][] {{0, 0, 3, 40}}, 1, 8);
        hotIs("l10;", new int[][] {{1, 1, 3, 40}}, 2, 20);
        hotIs("l10;", new int[][] {{1, 0, 3, 40}}, 2, 18);
        hotIs("l10;", new int[][] {{2, 1, 3, 40}}, 1, 13);
        hotIs("l10;", new int[][] {{3, 1, 3, 40}}, 1, 5);
        hotIs("l10;", new int[][] {{2, 1, 3, 0}}, 4, 0);
        hotIs("l10;", new int[][] {{0, 1, 3, 41}}, 0, NONE);
        hotIs("l9;", new int[][] {{0, 1, 3, 90}}, 1, 30);
        hotIs("l9;", new int[][] {{0, 1, 3, 93}}, 0, NONE);
        hotIs("l9;", new int[][] {{0, 1, 9, 7}, {1, 1, 9, 3}}, 1, 7);
        hotIs("l9;", new int[][] {{0, 1, 9, 7}, {1, 1, 9, 4}}, 0, NONE);
        hotIs("l9;", new int[][] {{1, 1, 9, 3}, {1, 0, 9, 4}}, 2, 6);
        hotIs("l9;k9;h3,4;", new int[][] {{0, 1, 1, 99}}, 1, 11);
        for (int what : new int[] {-1, 2, LOW, HIGH}) {
            due("hot(" + what + ")", new ToastBelt().hot(what), BAD);
        }
    }

    private static void leftIs(ToastBelt x, int g, int n, int above, int below) {
        due("left(" + g + ", " + n + ", 0)", x.left(g, n, 0), above);
        due("left(" + g + ", " + n + ", 1)", x.left(g, n, 1), below);
    }

    private static void leaving() {
        promise = 25;
        ToastBelt x = tray("g0,0,99;g0,0,99;g1,0,99;g0,0,99;g0,0,99;g0,0,99;g0,0,99;", 1, 1, 1, 1, 1, 1, -1);
        // Five white ones and a rye one lie there.
        leftIs(x, 0, 0, 1, 1);
        leftIs(x, 0, 1, 4, 5);
        leftIs(x, 5, 4, 1, 5);
        leftIs(x, 5, 5, 0, 1);
        leftIs(x, 5, 8, 0, 1);
        leftIs(x, 2, 0, 1, 1);
        leftIs(x, 2, 1, 0, 1);
        leftIs(x, 6, 0, NO, NO);
        x.take(6, 5);
        leftIs(x, 0, 2, 1, 2);
        leftIs(x, 0, 1, 3, 4);
        leftIs(x, 5, 1, NO, NO);
        x.putIn(6, 0);
        leftIs(x, 6, 1, NO, NO);
        int[][] bad = {{-1, 0, 0}, {7, 0, 0}, {0, -1, 0}, {0, 9, 0}, {0, 0, -1}, {0, 0, 2}, {6, 9, 0}, {LOW, 0, 0},
            {0, HIGH, 0}, {0, 0, LOW}};
        for (int[] b : bad) {
            due("left(" + b[0] + ", " + b[1] + ", " + b[2] + ")", x.left(b[0], b[1], b[2]), BAD);
        }
        ToastBelt six = tray("g0,0,9;g0,0,9;g0,0,9;g0,0,9;g0,0,9;g0,0,9;", 1, 1, 1, 1, 1, 1);
        leftIs(six, 3, 2, 2, 3);
        leftIs(six, 3, 3, 1, 2);
        leftIs(six, 3, 4, 1, 3);
    }

    private static void mornings() {
        promise = 26;
        // z = 0 at moment 0: x is 1, DRAW 0: guest 0 into lane 0.
        ToastBelt x = laid("l2;k1;h10,20;g0,22,22;g0,0,99;");
        due("morning(0, 1, 0)", x.morning(0, 1, 0), 0);
        due("morning(0, 1, 1)", x.morning(0, 1, 1), 10);
        due("a morning changes nothing", x.count(4) + x.count(5) + x.count(9), 0);
        // z = 1: x is 7920, 62726400 modulo 65521 is 22803, DRAW 5700: guest 0 of 2 into lane 356 modulo 2.
        // At moment 1 x is 14071, 197993041 modulo 65521 is 54100, DRAW 13525: guest 1 into lane 845 modulo 2.
        // Both ride at moment 1 and cool by 1.
        due("morning(1, 2, 1)", x.morning(1, 2, 1), 9);
        // One guest alone: put in at moment 0 into lane 0, 12 and 12 brown, eaten ahead of moment 2 if 24 is right.
        ToastBelt y = laid("l2;k1;h10,20;g0,24,24;");
        due("morning(0, 2, 0), lies on the tray", y.morning(0, 2, 0), 0);
        due("morning(0, 3, 0), eaten", y.morning(0, 3, 0), 1);
        due("morning(0, 2, 1)", y.morning(0, 2, 1), 10);
        due("morning(0, 3, 1), empty at last", y.morning(0, 3, 1), 11);
        due("morning(0, 40, 1), M at most", y.morning(0, 40, 1), 20);
        ToastBelt pale = laid("l2;k1;h10,20;g0,23,23;");
        due("morning(0, 40, 0), not right", pale.morning(0, 40, 0), 0);
        // Which lane it is at moment 0 tells how brown it falls: 24 of lane 0, 20 of lane 1.
        ToastBelt cool = laid("l2;k1;h10,20;g0,20,20;");
        int[][] lanes = {{0, 0}, {1, 0}, {2, 0}, {3, 1}, {4, 1}, {5, 0}, {6, 1}, {7, 1}, {8, 1}, {9, 1}, {5000, 1}, {9998, 0}, {9999, 1}};
        for (int[] lane : lanes) {
            due("morning(" + lane[0] + ", 3, 0) by lane 0", y.morning(lane[0], 3, 0), 1 - lane[1]);
            due("morning(" + lane[0] + ", 3, 0) by lane 1", cool.morning(lane[0], 3, 0), lane[1]);
        }
        // From now on: what lies on the tray is eaten, but not put in again.
        ToastBelt now = laid("l2;k1;h10,20;g0,20,20;");
        now.putIn(0, 1);
        now.pass(2);
        due("morning(9999, 1, 0)", now.morning(9999, 1, 0), 1);
        due("morning(9999, 1, 1)", now.morning(9999, 1, 1), 11);
        now.take(0, 0);
        due("morning(5, 1, 0), eaten ahead", now.morning(5, 1, 0), 1);
        int[][] bad = {{-1, 1, 0}, {10000, 1, 0}, {0, 0, 0}, {0, 41, 0}, {0, 1, -1}, {0, 1, 2}, {LOW, 1, 0},
            {HIGH, 1, 0}, {0, LOW, 0}, {0, HIGH, 0}, {0, 1, LOW}, {0, 1, HIGH}};
        for (int[] b : bad) {
            due("morning(" + b[0] + ", " + b[1] + ", " + b[2] + ")", x.morning(b[0], b[1], b[2]), BAD);
        }
    }

    private static void keeping() {
        promise = 27;
        ToastBelt x = new ToastBelt();
        x.pass(1);
        due("keep()", x.keep(), 1);
        due("keep() leaves what can be undone", x.count(9), 1);
        due("keep()", x.keep(), 2);
        due("keep(), the third", x.keep(), FULL);
        due("count(10)", x.count(10), 2);
        x.back();
        due("keep() behind back()", x.keep(), 2);
    }

    private static void goingBack() {
        promise = 28;
        ToastBelt x = new ToastBelt();
        due("back() of nothing", x.back(), NO);
        x.putIn(0, 0);
        x.pass(6);
        x.putIn(1, 1);
        x.knob(4);
        x.keep();
        x.take(0, 0);
        x.pass(9);
        x.knob(8);
        x.keep();
        x.putIn(2, 0);
        x.seen(0, 0, 1, 1);
        due("back()", x.back(), 1);
        counts(x, 6, 18, 8, 9 + 3, 15, 0, 1, 1, 1, 0, 1, 0);
        due("undo() behind back()", x.undo(), NO);
        x.pass(3);
        due("undo() of what came behind back()", x.undo(), 0);
        due("back()", x.back(), 0);
        counts(x, 6, 18, 4, 8, 6, 1, 1, 0, 1, 0, 0, 0);
        sliceIs(x, 0, 2, NONE, NONE, 60, NONE);
        sliceIs(x, 1, 1, 1, 0, 0, NONE);
        due("guest(0, 3)", x.guest(0, 3), NONE);
        due("back()", x.back(), NO);
        x.keep();
        x.pass(2);
        x.write('l');
        x.back();
        due("THE TEXT is not the belt's", x.count(11), 1);
    }

    private static void counting() {
        promise = 29;
        ToastBelt x = laid("l9;k4;h5,6;g0,0,99;g0,0,99;g1,0,99;g0,0,99;");
        counts(x, 4, 9, 4, 5, 0, 0, 0, 0, 0, 0, 0, 43);
        x.putIn(0, 0);
        x.putIn(1, 1);
        x.pass(3);
        x.putIn(2, 0);
        x.take(3, 1);
        x.seen(0, 0, 1, 9);
        x.keep();
        counts(x, 4, 9, 4, 2, 3, 1, 1, 1, 1, 5, 1, 43);
        for (int what : new int[] {-1, 12, LOW, HIGH}) {
            due("count(" + what + ")", x.count(what), BAD);
        }
    }

    public static void main(String[] args) {
        newObject();
        writing();
        wiping();
        faults();
        laying();
        guests();
        slices();
        puttingIn();
        passing();
        knobs();
        taking();
        undoing();
        falling();
        futures();
        contents();
        knobsFor();
        howOften();
        waiting();
        harming();
        sharing();
        going();
        seeing();
        forgetting();
        hotness();
        leaving();
        mornings();
        keeping();
        goingBack();
        counting();
        System.out.println(wrong == 0 ? "all promises hold" : wrong + " answers are not as due");
        if (wrong != 0) {
            System.exit(1);
        }
    }
}
