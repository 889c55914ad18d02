import java.util.regex.Pattern;

/**
 * Each sentence of the document that names an edge, told by its own words: the last value that is allowed, the first that
 * is not, on both sides. RefusalTest has the numbers that calls are given, and that nothing changes by what is refused.
 */
public final class EdgeTest {
    private static final int BAD = -1, NO = -2, FULL = -3, NONE = -4;
    private static final int HAND = 0, BELT = 1, TRAY = 2, EATEN = 3;

    private static int wrong = 0;
    private static String sentence = "";

    private static void due(String call, int got, int want) {
        if (got != want) {
            wrong++;
            System.out.println("'" + sentence + "': " + call + " answered " + got + ", due is " + want);
        }
    }

    private static ToastBelt written(String text) {
        ToastBelt x = new ToastBelt();
        for (int i = 0; i < text.length(); i++) {
            due("write of letter " + i + " of " + text, x.write(text.charAt(i)), i + 1);
        }
        return x;
    }

    private static ToastBelt laid(String text) {
        ToastBelt x = written(text);
        due("lay() of " + text, x.lay() > 0 ? 1 : 0, 1);
        return x;
    }

    private static void faultIs(String text, int want) {
        due("fault() of " + text, written(text).fault(), want);
    }

    // ---- 1: the text

    private static void letters() {
        sentence = "A TEXT is letters (200 at most)";
        String whole = "g0,1,2;" + "k3;".repeat(63) + "l40;";
        ToastBelt x = written(whole);
        due("count(11)", x.count(11), 200);
        due("the 201st", x.write(';'), FULL);
        due("count(11)", x.count(11), 200);
        due("fault() of 200", x.fault(), NONE);
        due("lay() of 200", x.lay(), 1);
        due("its last item", x.count(1), 40);
        due("wipe() of 200", x.wipe(), 200);
        due("write behind wipe()", x.write('l'), 1);
        faultIs(whole.substring(0, 199), 196);
        faultIs(whole.substring(0, 196) + "k3;k", 199);
        ToastBelt almost = written(whole.substring(0, 199));
        due("the 200th", almost.write(';'), 200);
        due("fault()", almost.fault(), NONE);
        sentence = "A letter (32 to 126, as in ASCII)";
        for (int letter = 0; letter < 256; letter++) {
            ToastBelt y = new ToastBelt();
            boolean told = letter >= 32 && letter <= 126;
            due("write(" + letter + ")", y.write(letter), told ? 1 : BAD);
            due("count(11)", y.count(11), told ? 1 : 0);
        }
    }

    private static final Pattern ITEM = Pattern.compile(
        "l(0?[2-9]|[123][0-9]|40);|k0?[1-9];|h([012]?[0-9]|30),([012]?[0-9]|30);|g0?[0-3],[0-9]{1,2},[0-9]{1,2};");

    /** One item that may be so or not, alone, ahead of a right one and behind one. */
    private static void itemIs(String item, boolean so) {
        faultIs(item, so ? NONE : 0);
        faultIs("g3,9,8;" + item, so ? NONE : 7);
        faultIs(item + "k3;", so ? NONE : 0);
    }

    private static void numberIn(String ahead, String behind, String[] right, String[] not) {
        for (String n : right) {
            itemIs(ahead + n + behind, true);
        }
        for (String n : not) {
            itemIs(ahead + n + behind, false);
        }
    }

    private static void numbers() {
        sentence = "lL the BELT is L (2 to 40) PLACES long";
        numberIn("l", ";", new String[] {"2", "3", "02", "9", "10", "39", "40"},
            new String[] {"", "0", "1", "00", "01", "41", "42", "50", "99", "002", "018", "040", "100", "2,2"});
        sentence = "kK the KNOB is at K (1 to 9)";
        numberIn("k", ";", new String[] {"1", "2", "01", "8", "9", "09"},
            new String[] {"", "0", "00", "10", "11", "19", "99", "001", "009", "100", "1,1"});
        String[] heats = {"0", "00", "1", "01", "9", "29", "30"};
        String[] noHeats = {"", "31", "32", "40", "99", "000", "030", "100", "300"};
        sentence = "hH,M its HEAT is H (0 to 30)";
        numberIn("h", ",12;", heats, noHeats);
        sentence = "M (0 to 30) at most";
        numberIn("h8,", ";", heats, noHeats);
        sentence = "gK,B,W of KIND K (0 WHITE, 1 RYE, 2 THICK, 3 SWEET)";
        numberIn("g", ",1,2;", new String[] {"0", "1", "2", "3", "00", "03"},
            new String[] {"", "4", "5", "9", "04", "10", "30", "99", "000", "003"});
        String[] browns = {"0", "00", "1", "09", "9", "10", "98", "99"};
        String[] noBrowns = {"", "000", "001", "099", "100", "101", "999"};
        sentence = "B (0 to 99)";
        numberIn("g0,", ",2;", browns, noBrowns);
        sentence = "W (0 to 99)";
        numberIn("g0,1,", ";", browns, noBrowns);
        sentence = "numbers as many as the letter has";
        for (String item : new String[] {"l;", "k;", "h;", "h8;", "h8,12,1;", "g;", "g0;", "g0,1;", "g0,1,2,3;"}) {
            itemIs(item, false);
        }
    }

    /** Each right item with one letter altered, left out or put in. */
    private static void oneLetterOff() {
        sentence = "each a letter, then numbers (one or two figures) parted by , and a ; behind the last one";
        for (String item : new String[] {"l18;", "l2;", "k3;", "h8,12;", "h30,0;", "g0,40,60;", "g3,9,9;"}) {
            for (int at = 0; at <= item.length(); at++) {
                String ahead = item.substring(0, at);
                if (at < item.length()) {
                    isSoByPattern(ahead + item.substring(at + 1));
                }
                for (char letter = 32; letter <= 126; letter++) {
                    isSoByPattern(ahead + letter + item.substring(at));
                    if (at < item.length()) {
                        isSoByPattern(ahead + letter + item.substring(at + 1));
                    }
                }
            }
        }
    }

    /** Of a text of one item, or with a letter behind it. */
    private static void isSoByPattern(String text) {
        int end = text.indexOf(';') + 1;
        boolean firstIsSo = ITEM.matcher(text.substring(0, end)).matches();
        faultIs(text, !firstIsSo ? 0 : end == text.length() ? NONE : end);
    }

    private static void guestsOfText() {
        sentence = "9 at most, 0, 1, ..";
        String guests = "";
        for (int many = 1; many <= 9; many++) {
            guests += "g" + many % 4 + "," + many + "," + (90 + many) + ";";
            ToastBelt x = written(guests);
            due("fault() of " + many, x.fault(), NONE);
            due("fault() again", x.fault(), NONE);
            due("lay() of " + many, x.lay(), many);
            due("lay() again", x.lay(), many);
            due("count(0)", x.count(0), many);
            due("kind of the last", x.guest(many - 1, 0), many % 4);
            due("B of the last", x.guest(many - 1, 1), many);
            due("W of the last", x.guest(many - 1, 2), 90 + many);
            due("B of the first", x.guest(0, 1), 1);
            due("one more", x.guest(many, 0), BAD);
        }
        faultIs(guests + "g0,0,0;", 72);
        faultIs(guests + "k3;l2;g0,0,0;", 78);
        faultIs(guests + "g0,0,0;g0,0,0;", 72);
        due("lay() of 10", written(guests + "g0,0,0;").lay(), NO);
        ToastBelt x = written(guests + "g0,0,0;");
        x.wipe();
        for (int i = 0; i < guests.length(); i++) {
            x.write(guests.charAt(i));
        }
        due("lay() of 9 behind a fault of 10", x.lay(), 9);
    }

    private static void laidIs(String text, int l, int k, int h, int m) {
        ToastBelt x = laid(text);
        due("L of " + text, x.count(1), l);
        due("K of " + text, x.count(2), k);
        due("H of " + text, x.count(3), h);
        x.pass(60);
        due("M of " + text, x.count(3), Math.max(h, m));
        due("MOMENTS of " + text, x.count(4), 60);
        due("lay() anew of " + text, x.lay(), 1);
        due("H anew of " + text, x.count(3), h);
        due("MOMENTS anew of " + text, x.count(4), 0);
    }

    private static void without() {
        sentence = "(18 without; the last one)";
        laidIs("g0,1,2;", 18, 3, 8, 12);
        laidIs("l2;g0,1,2;", 2, 3, 8, 12);
        laidIs("g0,1,2;l40;", 40, 3, 8, 12);
        laidIs("l2;g0,1,2;l40;", 40, 3, 8, 12);
        laidIs("l40;l2;g0,1,2;l18;", 18, 3, 8, 12);
        sentence = "(3 without; the last one)";
        laidIs("k1;g0,1,2;", 18, 1, 8, 12);
        laidIs("g0,1,2;k9;", 18, 9, 8, 12);
        laidIs("k9;g0,1,2;k1;", 18, 1, 8, 12);
        laidIs("k9;k1;g0,1,2;k3;", 18, 3, 8, 12);
        sentence = "(8, 12 without; the last one)";
        laidIs("h0,0;g0,1,2;", 18, 3, 0, 0);
        laidIs("h0,30;g0,1,2;", 18, 3, 0, 30);
        laidIs("g0,1,2;h30,0;", 18, 3, 30, 0);
        laidIs("h30,30;g0,1,2;", 18, 3, 30, 30);
        laidIs("h1,29;g0,1,2;h2,28;", 18, 3, 2, 28);
        laidIs("h1,29;h5,6;g0,1,2;h8,12;", 18, 3, 8, 12);
        sentence = "at first l18;k3;h8,12;g0,40,60;..";
        ToastBelt x = new ToastBelt();
        due("L", x.count(1), 18);
        due("K", x.count(2), 3);
        due("H", x.count(3), 8);
        x.pass(60);
        due("M", x.count(3), 12);
        due("THE TEXT", x.count(11), 0);
        due("lay() of THE TEXT", x.lay(), NO);
        int[][] guests = {{0, 40, 60}, {0, 50, 80}, {1, 20, 40}, {2, 30, 60}, {3, 60, 99}, {0, 10, 45}};
        due("count(0)", x.count(0), guests.length);
        for (int g = 0; g < guests.length; g++) {
            for (int what = 0; what < 3; what++) {
                due("guest(" + g + ", " + what + ")", x.guest(g, what), guests[g][what]);
            }
        }
        sentence = "without: of THE TEXT that is LAID, not of one ahead of it";
        ToastBelt y = laid("l2;k9;h1,2;g3,4,5;g3,4,5;");
        y.wipe();
        for (char letter : "g0,1,2;".toCharArray()) {
            y.write(letter);
        }
        due("lay()", y.lay(), 1);
        due("L", y.count(1), 18);
        due("K", y.count(2), 3);
        due("H", y.count(3), 8);
        y.pass(60);
        due("M", y.count(3), 12);
    }

    private static void firstFault() {
        sentence = "FAULT: the place of the first letter of the first ITEM that is not so";
        faultIs("", NONE);
        faultIs("l1;k0;", 0);
        faultIs("l2;k0;l1;", 3);
        faultIs("l2;k1;l1;g4,0,0;", 6);
        faultIs("k1;l2;h31,0;", 6);
        faultIs("k1;l2;h30,31", 6);
        faultIs("h30,30;x;l1;", 7);
        faultIs("h30,30;;", 7);
        faultIs("l1;x", 0);
        faultIs("x;l1;", 0);
        for (int items = 0; items <= 66; items++) {
            faultIs("k3;".repeat(items) + "!", 3 * items);
        }
        sentence = "LAID is a TEXT without FAULT, of a GUEST at least (NO else)";
        due("lay() of nothing", written("").lay(), NO);
        due("lay() without guests", written("l2;k1;h1,1;").lay(), NO);
        due("lay() of one", written("l2;k1;h1,1;g0,0,0;").lay(), 1);
        due("lay() of one alone", written("g0,0,0;").lay(), 1);
        due("lay() of one and a fault", written("g0,0,0;l").lay(), NO);
        due("lay() of a fault and one", written("l;g0,0,0;").lay(), NO);
        due("lay() of B above W", written("g0,99,0;").lay(), 1);
    }

    private static void layingAnew() {
        sentence = "MOMENT 0, all in HANDS, nothing SEEN, UNDONE, KEPT";
        ToastBelt x = laid("l2;k9;h9,9;g0,0,99;g0,0,99;g0,0,99;");
        x.putIn(0, 0);
        x.putIn(1, 1);
        x.pass(1);
        x.take(2, 0);
        x.putIn(2, 0);
        x.keep();
        x.keep();
        for (int i = 0; i < 6; i++) {
            x.seen(0, 0, 1, 1);
        }
        due("lay()", x.lay(), 3);
        for (int what : new int[] {4, 5, 6, 7, 8, 9, 10}) {
            due("count(" + what + ")", x.count(what), 0);
        }
        for (int g = 0; g < 3; g++) {
            due("slice(g, 0)", x.slice(g, 0), HAND);
            due("slice(g, 3)", x.slice(g, 3), 0);
            due("slice(g, 4)", x.slice(g, 4), NONE);
            due("guest(g, 3)", x.guest(g, 3), NONE);
        }
        due("undo()", x.undo(), NO);
        due("back()", x.back(), NO);
        due("hot(0)", x.hot(0), 31);
        due("keep() anew", x.keep(), 1);
        due("seen() anew", x.seen(0, 0, 1, 1), 1);
        due("putIn(0, 0) anew", x.putIn(0, 0), 1);
        due("undo() anew", x.undo(), 0);
    }

    // ---- 2: the belt

    /** Every belt at every knob: where a slice is at each moment, and when it falls. */
    private static void places() {
        for (int l = 2; l <= 40; l++) {
            for (int k = 1; k <= 9; k++) {
                ToastBelt x = laid("l" + l + ";k" + k + ";h10,10;g0,0,99;");
                x.putIn(0, l % 2);
                int place = 0, moments = 0;
                int hot = l % 2 == 0 ? 12 : 10;
                int all = 0;
                for (int p = 0; p < l; p += k) {
                    all++;
                }
                while (place < l) {
                    String at = " at place " + place + " of " + l + ", knob " + k;
                    sentence = "PLACE 0 to L less 1";
                    due("slice(0, 0)" + at, x.slice(0, 0), BELT);
                    due("slice(0, 1)" + at, x.slice(0, 1), l % 2);
                    due("slice(0, 2)" + at, x.slice(0, 2), place);
                    sentence = "FALLS: behind how many MOMENTS a SLICE on the BELT lies on the TRAY";
                    due("falls(0)" + at, x.falls(0), all - moments);
                    sentence = "WILL BE: how BROWN it is then";
                    due("willBe(0)" + at, x.willBe(0), all * hot);
                    place += k;
                    moments++;
                    due("pass(1)" + at, x.pass(1), place < l ? 0 : 1);
                }
                sentence = "what is beyond the last one then lies on the TRAY";
                String by = " of " + l + ", knob " + k;
                due("slice(0, 0)" + by, x.slice(0, 0), TRAY);
                due("slice(0, 1)" + by, x.slice(0, 1), NONE);
                due("slice(0, 2)" + by, x.slice(0, 2), NONE);
                due("slice(0, 3)" + by, x.slice(0, 3), all * hot);
                due("falls(0)" + by, x.falls(0), NONE);
                due("willBe(0)" + by, x.willBe(0), all * hot);
            }
        }
    }

    private static int brownOf(int kind, int lane, int heat) {
        ToastBelt x = laid("l2;k9;h" + heat + ",30;g" + kind + ",0,99;");
        x.putIn(0, lane);
        x.pass(1);
        return x.slice(0, 3);
    }

    private static void browner() {
        sentence = "each on the BELT becomes BROWNER by the HEAT, 2 more in LANE 0";
        for (int heat = 0; heat <= 30; heat++) {
            due("white in lane 1 at " + heat, brownOf(0, 1, heat), heat);
            due("white in lane 0 at " + heat, brownOf(0, 0, heat), heat + 2);
        }
        sentence = "a RYE one by half, cut";
        int[] half = {0, 0, 1, 1, 2, 2, 3};
        for (int heat = 0; heat <= 6; heat++) {
            due("rye in lane 1 at " + heat, brownOf(1, 1, heat), half[heat]);
            due("rye in lane 0 at " + heat, brownOf(1, 0, heat), half[heat] + 1);
        }
        due("rye in lane 0 at 29", brownOf(1, 0, 29), 15);
        due("rye in lane 0 at 30", brownOf(1, 0, 30), 16);
        sentence = "a THICK one by 3 less, 0 at least";
        int[] less = {0, 0, 0, 0, 1, 2, 3};
        int[] lessInLane0 = {0, 0, 1, 2, 3, 4, 5};
        for (int heat = 0; heat <= 6; heat++) {
            due("thick in lane 1 at " + heat, brownOf(2, 1, heat), less[heat]);
            due("thick in lane 0 at " + heat, brownOf(2, 0, heat), lessInLane0[heat]);
        }
        due("thick in lane 0 at 30", brownOf(2, 0, 30), 29);
        sentence = "a SWEET one by twice that";
        due("sweet in lane 1 at 0", brownOf(3, 1, 0), 0);
        due("sweet in lane 1 at 1", brownOf(3, 1, 1), 2);
        due("sweet in lane 0 at 0", brownOf(3, 0, 0), 4);
        due("sweet in lane 0 at 30", brownOf(3, 0, 30), 64);
        sentence = "how BROWN, without an end";
        ToastBelt x = laid("l40;k1;h30,30;g3,0,99;g0,0,99;");
        x.putIn(0, 0);
        due("willBe(0)", x.willBe(0), 40 * 64);
        x.pass(40);
        x.putIn(0, 0);
        x.pass(40);
        due("slice(0, 3)", x.slice(0, 3), 80 * 64);
        sentence = "each on the BELT";
        due("what is in a hand", x.slice(1, 3), 0);
        x.pass(5);
        due("what is on the tray", x.slice(0, 3), 80 * 64);
    }

    /** Nine guests, so many of them put in as near one another as can be. */
    private static ToastBelt riders(int heat, int most, int many) {
        ToastBelt x = laid("l40;k1;h" + heat + "," + most + ";" + "g0,0,9;".repeat(9));
        for (int g = 0; g < many; g++) {
            due("putIn(" + g + ")", x.putIn(g, g % 2), g + 1);
            if (g % 2 == 1 && g + 1 < many) {
                x.pass(1);
            }
        }
        return x;
    }

    private static void cooling() {
        sentence = "The HEAT is less by half of how many were on the BELT ahead of 1, cut, 0 at least";
        int[] halves = {0, 0, 1, 1, 2, 2, 3, 3, 4, 4};
        for (int many = 1; many <= 9; many++) {
            for (int heat = 0; heat <= 30; heat++) {
                ToastBelt x = riders(heat, 30, many);
                int before = x.count(3);
                x.pass(1);
                due("count(3) of " + many + " from " + before, x.count(3), before < halves[many] ? 0 : before - halves[many]);
            }
        }
        ToastBelt two = laid("l2;k9;h9,9;g0,0,9;g0,0,9;");
        two.putIn(0, 0);
        two.putIn(1, 1);
        due("both fall", two.pass(1), 2);
        due("count(3), those that fell were there", two.count(3), 8);
        two.pass(1);
        due("count(3), none was there", two.count(3), 9);
        sentence = "if none was, 1 more (if it is less than M)";
        int[][] heats = {{0, 0, 0}, {0, 1, 1}, {1, 1, 1}, {1, 0, 1}, {11, 12, 12}, {12, 12, 12}, {13, 12, 13}, {29, 30, 30},
            {30, 30, 30}, {30, 29, 30}, {30, 0, 30}, {28, 30, 29}, {0, 30, 1}};
        for (int[] h : heats) {
            ToastBelt x = laid("h" + h[0] + "," + h[1] + ";g0,0,9;g0,0,9;");
            x.pass(1);
            due("count(3) of none, " + h[0] + ", " + h[1], x.count(3), h[2]);
            ToastBelt one = laid("l2;k9;h" + h[0] + "," + h[1] + ";g0,0,9;g0,0,9;");
            one.putIn(0, 1);
            one.pass(1);
            due("count(3) of one, " + h[0] + ", " + h[1], one.count(3), h[0]);
            ToastBelt eaten = laid("l2;k9;h" + h[0] + "," + h[1] + ";g0,0,9;g0,0,9;");
            eaten.putIn(0, 1);
            eaten.pass(1);
            eaten.take(1, 0);
            eaten.pass(1);
            due("count(3) of one eaten, " + h[0] + ", " + h[1], eaten.count(3), h[2]);
        }
        sentence = "M (0 to 30) at most when it is empty";
        ToastBelt filled = laid("h0,30;g0,0,9;");
        filled.pass(29);
        due("count(3) behind 29", filled.count(3), 29);
        filled.pass(1);
        due("count(3) behind 30", filled.count(3), 30);
        filled.pass(1);
        due("count(3) behind 31", filled.count(3), 30);
    }

    private static void puttingIn() {
        sentence = "A GUEST PUTS his SLICE IN to PLACE 0 of a LANE, if nothing is in that PLACE";
        for (int lane = 0; lane <= 1; lane++) {
            ToastBelt x = laid("l3;k1;h9,9;g0,0,99;g0,0,99;g0,0,99;g0,0,99;");
            due("putIn(0, lane)", x.putIn(0, lane), 1);
            due("putIn(1, lane), taken", x.putIn(1, lane), NO);
            due("putIn(1, the other)", x.putIn(1, 1 - lane), 2);
            due("putIn(2, the other), taken", x.putIn(2, 1 - lane), NO);
            x.pass(1);
            due("putIn(2, lane), the first is in place 1", x.putIn(2, lane), 3);
            due("putIn(3, lane), taken", x.putIn(3, lane), NO);
            due("undo()", x.undo() >= 0 ? 1 : 0, 1);
            due("putIn(3, lane), free", x.putIn(3, lane), 3);
            due("slice(3, 2)", x.slice(3, 2), 0);
            due("slice(0, 2)", x.slice(0, 2), 1);
        }
        sentence = "from his HAND or (AGAIN) from the TRAY";
        ToastBelt x = laid("l2;k1;h9,9;g0,0,99;g0,0,99;");
        due("putIn(0, 1) from his hand", x.putIn(0, 1), 1);
        due("putIn(0, 0) in place 0", x.putIn(0, 0), NO);
        x.pass(1);
        due("putIn(0, 0) in the last place", x.putIn(0, 0), NO);
        x.pass(1);
        due("putIn(0, 0) from the tray", x.putIn(0, 0), 1);
        due("slice(0, 1)", x.slice(0, 1), 0);
        due("slice(0, 2)", x.slice(0, 2), 0);
        due("slice(0, 3) is as brown as it was", x.slice(0, 3), 18);
        x.pass(2);
        due("slice(0, 3) is browner by twice", x.slice(0, 3), 18 + 22);
        x.take(1, 0);
        due("putIn(0, 0), eaten", x.putIn(0, 0), NO);
        due("putIn(1, 0) of one who has eaten", x.putIn(1, 0), 1);
    }

    private static void taking() {
        sentence = "one who has EATEN none TAKES a SLICE of the KIND of his own, whosever it is";
        for (int mine = 0; mine <= 3; mine++) {
            for (int other = 0; other <= 3; other++) {
                ToastBelt x = laid("l2;k9;h9,9;g" + mine + ",0,99;g" + other + ",0,99;");
                due("take(0, 1) in a hand", x.take(0, 1), NO);
                x.putIn(1, 1);
                due("take(0, 1) on the belt", x.take(0, 1), NO);
                x.pass(1);
                due("take(0, 1) of kinds " + mine + ", " + other, x.take(0, 1), mine == other ? 1 : NO);
                due("take(1, 1)", x.take(1, 1), mine == other ? NO : 1);
                due("slice(1, 4)", x.slice(1, 4), mine == other ? 0 : 1);
                due("guest(0, 3)", x.guest(0, 3), mine == other ? 1 : NONE);
                due("guest(1, 3)", x.guest(1, 3), mine == other ? NONE : 1);
                due("count(7)", x.count(7), 1);
                x.putIn(0, 1);
                x.pass(1);
                due("take(0, 0) of his own", x.take(0, 0), mine == other ? NO : 1);
                due("take(1, 0) of one who may", x.take(1, 0), mine == other ? 1 : NO);
            }
        }
    }

    /** A guest who wants B to W, and his slice so brown, on the tray (lane 1, white, 1 moment, or 9 or 10 of them). */
    private static ToastBelt onTray(int b, int w, int brown) {
        String belt = brown <= 30 ? "l2;k9;h" + brown : brown % 9 == 0 ? "l9;k1;h" + brown / 9 : "l10;k1;h" + brown / 10;
        ToastBelt x = laid(belt + ",30;g0," + b + "," + w + ";");
        x.putIn(0, 1);
        due("willBe(0)", x.willBe(0), brown);
        x.pass(brown <= 30 ? 1 : brown % 9 == 0 ? 9 : 10);
        due("slice(0, 0)", x.slice(0, 0), TRAY);
        due("slice(0, 3)", x.slice(0, 3), brown);
        return x;
    }

    private static void right() {
        sentence = "RIGHT for a GUEST is a SLICE that is B to W BROWN";
        int[][] cases = {{10, 12, 9, 0}, {10, 12, 10, 1}, {10, 12, 11, 1}, {10, 12, 12, 1}, {10, 12, 13, 0}, {10, 10, 9, 0},
            {10, 10, 10, 1}, {10, 10, 11, 0}, {12, 10, 10, 0}, {12, 10, 11, 0}, {12, 10, 12, 0}, {0, 0, 0, 1}, {0, 0, 1, 0},
            {1, 99, 0, 0}, {0, 99, 99, 1}, {99, 99, 99, 1}, {0, 98, 99, 0}, {0, 99, 100, 0}, {99, 99, 100, 0}, {98, 99, 90, 0}};
        for (int[] c : cases) {
            ToastBelt x = onTray(c[0], c[1], c[2]);
            String of = " of " + c[2] + " for " + c[0] + " to " + c[1];
            due("slice(0, 5)" + of, x.slice(0, 5), c[3]);
            due("share(-1)" + of, x.share(-1), c[3]);
            due("share(0)" + of, x.share(0), c[3] == 1 ? 0 : NONE);
            due("content()" + of, x.content(), 0);
            due("take(0, 0)" + of, x.take(0, 0), c[3]);
            due("content()" + of, x.content(), c[3]);
            due("slice(0, 5)" + of + ", eaten", x.slice(0, 5), c[3]);
            due("slice(0, 0)" + of + ", eaten", x.slice(0, 0), EATEN);
        }
        due("0 brown in a hand for 0 to 0", laid("g0,0,0;").slice(0, 5), 1);
        due("0 brown in a hand for 1 to 99", laid("g0,1,99;").slice(0, 5), 0);
        sentence = "WILL BE (on the TRAY, in a HAND: as now). NONE: EATEN";
        due("willBe(0) in a hand", laid("g0,1,99;").willBe(0), 0);
        ToastBelt y = onTray(0, 9, 10);
        due("willBe(0) on the tray", y.willBe(0), 10);
        y.take(0, 0);
        due("willBe(0), eaten", y.willBe(0), NONE);
    }

    private static void moments() {
        sentence = "n (1 to 60) MOMENTS go by: how many have FALLEN in them";
        ToastBelt nine = riders(30, 30, 9);
        due("pass(35), the first is in place 39", nine.pass(35), 0);
        due("slice(0, 2)", nine.slice(0, 2), 39);
        due("pass(1)", nine.pass(1), 2);
        due("pass(2)", nine.pass(2), 4);
        due("pass(1)", nine.pass(1), 2);
        due("pass(1), the last one", nine.pass(1), 1);
        due("pass(60)", nine.pass(60), 0);
        due("all at once", riders(30, 30, 9).pass(60), 9);
        sentence = "NO: more than 999 in all";
        ToastBelt x = new ToastBelt();
        for (int i = 1; i <= 15; i++) {
            due("pass(60)", x.pass(60), 0);
        }
        due("pass(39)", x.pass(39), 0);
        due("pass(1)", x.pass(1), 0);
        due("count(4)", x.count(4), 940);
        due("pass(60), 1000", x.pass(60), NO);
        due("pass(59), 999", x.pass(59), 0);
        due("count(4)", x.count(4), 999);
        due("pass(1), 1000", x.pass(1), NO);
        due("undo()", x.undo(), 7);
        due("undo()", x.undo(), 6);
        due("count(4)", x.count(4), 939);
        due("pass(60), 999", x.pass(60), 0);
        due("pass(60), 1059", x.pass(60), NO);
        sentence = "From now on, behind 999 MOMENTS too";
        due("putIn(0, 0)", x.putIn(0, 0), 1);
        due("falls(0)", x.falls(0), 6);
        due("willBe(0)", x.willBe(0), 6 * 14);
        due("waits(1, 1)", x.waits(1, 1) == NO ? 1 : 0, 0);
        due("morning(0, 40, 1)", x.morning(0, 40, 1) == NO ? 1 : 0, 0);
        due("count(4)", x.count(4), 999);
        due("knob(9)", x.knob(9), 3);
        due("undo()", x.undo() >= 0 ? 1 : 0, 1);
    }

    private static void undoing() {
        sentence = "UNDONE is the latest (the last 8 can be)";
        for (int acts = 0; acts <= 30; acts++) {
            ToastBelt x = new ToastBelt();
            for (int i = 1; i <= acts; i++) {
                x.pass(i);
            }
            int can = Math.min(8, acts);
            due("count(9) behind " + acts, x.count(9), can);
            int moments = acts * (acts + 1) / 2;
            for (int i = 0; i < can; i++) {
                due("undo() behind " + acts, x.undo(), can - 1 - i);
                moments -= acts - i;
                due("count(4) behind " + acts, x.count(4), moments);
            }
            due("undo() of one more", x.undo(), NO);
            due("count(4)", x.count(4), moments);
            x.pass(1);
            due("count(9), one anew", x.count(9), 1);
            due("undo(), one anew", x.undo(), 0);
            due("count(4)", x.count(4), moments);
        }
        sentence = "of PUTTING IN, TAKING, the KNOB, MOMENTS";
        ToastBelt x = laid("l2;k9;h9,9;g0,0,99;g0,0,99;");
        x.putIn(0, 1);
        x.pass(1);
        x.knob(9);
        x.take(1, 0);
        x.putIn(1, 0);
        due("count(9)", x.count(9), 5);
        x.seen(0, 0, 1, 1);
        x.keep();
        x.write('l');
        x.fault();
        x.forget();
        x.wipe();
        x.lay();
        due("count(9) by nothing else", x.count(9), 5);
        due("undo() of putting in", x.undo(), 4);
        due("slice(1, 0)", x.slice(1, 0), HAND);
        due("undo() of taking", x.undo(), 3);
        due("slice(0, 0)", x.slice(0, 0), TRAY);
        due("slice(0, 4)", x.slice(0, 4), NONE);
        due("guest(1, 3)", x.guest(1, 3), NONE);
        due("undo() of the knob as it was", x.undo(), 2);
        due("slice(0, 0)", x.slice(0, 0), TRAY);
        due("undo() of a moment", x.undo(), 1);
        due("slice(0, 0)", x.slice(0, 0), BELT);
        due("slice(0, 2)", x.slice(0, 2), 0);
        due("slice(0, 3)", x.slice(0, 3), 0);
        due("undo() of putting in", x.undo(), 0);
        due("slice(0, 0)", x.slice(0, 0), HAND);
        due("undo()", x.undo(), NO);
        sentence = "how many more can be: done and undone in turn, beyond 8 in all";
        ToastBelt turns = new ToastBelt();
        for (int i = 0; i < 40; i++) {
            turns.knob(1 + i % 9);
            turns.knob(1 + (i + 4) % 9);
            due("undo()", turns.undo(), Math.min(7, i + 1));
            due("count(2)", turns.count(2), 1 + i % 9);
        }
    }

    // ---- 3: what will be

    private static void contentBits() {
        sentence = "CONTENT: GUESTS (bits)";
        for (int g = 0; g <= 8; g++) {
            ToastBelt x = laid("l2;k9;h9,9;" + "g0,9,9;".repeat(9));
            x.putIn(8 - g, 1);
            x.pass(1);
            due("take(" + g + ", " + (8 - g) + ")", x.take(g, 8 - g), 1);
            due("content() of " + g, x.content(), 1 << g);
        }
        ToastBelt all = laid("l2;k9;h9,9;" + "g0,9,9;".repeat(9));
        for (int g = 0; g <= 8; g++) {
            all.putIn(g, 1);
            all.pass(1);
            all.take(g, g);
        }
        due("content() of all", all.content(), 511);
        due("count(7)", all.count(7), 9);
    }

    private static void knobFor() {
        sentence = "KNOB FOR: at which least KNOB (1 to 9); none";
        // 10 a moment: 9 moments at knob 1, 5 at 2, 3 at 3 and 4, 2 at 5 to 8, 1 at 9.
        int[][] cases = {{90, 90, 1}, {91, 99, NONE}, {51, 89, NONE}, {50, 50, 2}, {50, 90, 1}, {30, 30, 3}, {30, 50, 2},
            {31, 49, NONE}, {20, 20, 5}, {21, 29, NONE}, {10, 10, 9}, {10, 19, 9}, {11, 19, NONE}, {0, 9, NONE}, {0, 10, 9},
            {0, 99, 1}, {99, 0, NONE}};
        for (int[] c : cases) {
            ToastBelt x = laid("l9;k9;h10,10;g0," + c[0] + "," + c[1] + ";");
            due("knobFor(0, 1) for " + c[0] + " to " + c[1], x.knobFor(0, 1), c[2]);
        }
        // A knob at 0 would never let it fall; there is none.
        due("knobFor(0, 1) of no heat", laid("l2;k5;h0,0;g0,0,0;").knobFor(0, 1), 1);
        due("knobFor(0, 1) of little heat", laid("l2;k5;h1,1;g0,3,99;").knobFor(0, 1), NONE);
        sentence = "NO: it is not in his HAND, not on the TRAY";
        ToastBelt x = laid("l2;k1;h10,10;g0,0,99;");
        due("knobFor(0, 0) in his hand", x.knobFor(0, 0), 1);
        due("often(0, 0) in his hand", x.often(0, 0), 1);
        due("waits(0, 0) in his hand", x.waits(0, 0), 0);
        x.putIn(0, 0);
        for (int place = 0; place < 2; place++) {
            due("knobFor(0, 0) on the belt", x.knobFor(0, 0), NO);
            due("often(0, 1) on the belt", x.often(0, 1), NO);
            due("waits(0, 0) on the belt", x.waits(0, 0), NO);
            x.pass(1);
        }
        due("knobFor(0, 0) on the tray, 24 and 24", x.knobFor(0, 0), 1);
        due("often(0, 0) on the tray", x.often(0, 0), 1);
        due("waits(0, 0) on the tray", x.waits(0, 0), 0);
        x.take(0, 0);
        due("knobFor(0, 0), eaten", x.knobFor(0, 0), NO);
        due("often(0, 0), eaten", x.often(0, 0), NO);
        due("waits(0, 0), eaten", x.waits(0, 0), NO);
    }

    private static void often() {
        sentence = "OFTEN: how often (1 to 5) it has to go through, to be RIGHT first; none";
        // 10 each time.
        int[][] cases = {{0, 9, NONE}, {10, 10, 1}, {10, 50, 1}, {11, 20, 2}, {30, 30, 3}, {31, 49, 4}, {41, 50, 5},
            {50, 50, 5}, {50, 60, 5}, {51, 60, NONE}, {60, 60, NONE}, {51, 59, NONE}, {99, 0, NONE}};
        for (int[] c : cases) {
            ToastBelt x = laid("l2;k9;h10,10;g0," + c[0] + "," + c[1] + ";");
            due("often(0, 1) for " + c[0] + " to " + c[1], x.often(0, 1), c[2]);
            x.putIn(0, 1);
            x.pass(1);
            int wanted = c[2] > 1 ? c[2] - 1 : c[0] <= 20 && c[1] >= 20 ? 1 : c[0] <= 60 && c[1] >= 60 ? 5 : NONE;
            due("often(0, 1) from the tray for " + c[0] + " to " + c[1], x.often(0, 1), wanted);
        }
        sentence = "AGAIN each time at once as it has FALLEN (PLACE 0 of that LANE being free or not)";
        // The other one rides on in the place: both cool the belt by 1 a moment, till it has fallen.
        ToastBelt x = laid("l2;k1;h10,10;g0,34,34;g0,0,0;");
        x.putIn(1, 1);
        due("often(0, 1), 10 + 9, then alone 8 + 8", x.often(0, 1), NONE);
        due("often(0, 0), 12 + 11, then alone 10 + 10", x.often(0, 0), NONE);
        ToastBelt y = laid("l2;k1;h10,10;g0,35,35;g0,0,0;");
        y.putIn(1, 1);
        due("often(0, 1), 19 and 16", y.often(0, 1), 2);
    }

    private static void waits() {
        sentence = "WAIT: how many MOMENTS (0 to 30), of several the fewest; none";
        // The heat is as many as have been waited, and so brown it will be.
        for (int wait = 0; wait <= 30; wait++) {
            ToastBelt x = laid("l2;k9;h0,30;g0," + wait + "," + wait + ";");
            due("waits(0, 1) for " + wait, x.waits(0, 1), wait);
            ToastBelt several = laid("l2;k9;h0,30;g0," + wait + ",99;");
            due("waits(0, 1) for " + wait + " to 99", several.waits(0, 1), wait);
        }
        due("waits(0, 1) for 31", laid("l2;k9;h0,30;g0,31,99;").waits(0, 1), NONE);
        due("waits(0, 0) for 31", laid("l2;k9;h0,30;g0,31,99;").waits(0, 0), 29);
        due("waits(0, 0) for 32", laid("l2;k9;h0,30;g0,32,99;").waits(0, 0), 30);
        due("waits(0, 0) for 33", laid("l2;k9;h0,30;g0,33,99;").waits(0, 0), NONE);
        // Another one rides for a moment, in which the heat stays: what needs heat 30 has to wait 31 then.
        ToastBelt x = laid("l2;k9;h0,30;g0,30,30;g0,0,0;");
        x.putIn(1, 0);
        due("waits(0, 1) for 30, one late", x.waits(0, 1), NONE);
        ToastBelt y = laid("l2;k9;h0,30;g0,29,29;g0,0,0;");
        y.putIn(1, 0);
        due("waits(0, 1) for 29, one late", y.waits(0, 1), 30);
        sentence = "(What is in PLACE 0 of that LANE does not matter for these three.)";
        for (int lane = 0; lane <= 1; lane++) {
            ToastBelt z = laid("l2;k9;h10,10;g0,10,12;g0,0,0;");
            z.putIn(1, lane);
            due("putIn(0, lane)", z.putIn(0, lane), NO);
            due("knobFor(0, lane)", z.knobFor(0, lane), 2);
            due("often(0, lane)", z.often(0, lane), 1);
            due("waits(0, lane)", z.waits(0, lane), 0);
        }
    }

    private static void harm() {
        sentence = "HARM of a KNOB k (1 to 9)";
        // 10 a moment: 9 moments at knob 1, 5 at 2, 3 at 3 and 4, 2 at 5 to 8, 1 at 9.
        int[] brown = {0, 90, 50, 30, 30, 20, 20, 20, 20, 10};
        for (int is = 1; is <= 9; is++) {
            for (int k = 1; k <= 9; k++) {
                ToastBelt x = laid("l9;k" + is + ";h10,10;g0,0,99;g0," + brown[is] + "," + brown[is] + ";");
                x.putIn(1, 1);
                due("harm(" + k + ") at " + is, x.harm(k), brown[k] == brown[is] ? 0 : 2);
                ToastBelt y = laid("l9;k" + is + ";h10,10;g0,0,99;g0," + brown[k] + "," + brown[k] + ";");
                y.putIn(1, 1);
                due("harm(" + k + ") at " + is + ", right by it alone", y.harm(k), 0);
            }
        }
        sentence = "SLICES (bits) on the BELT";
        for (int g = 0; g <= 8; g++) {
            ToastBelt x = laid("l2;k9;h10,10;" + "g0,10,10;".repeat(9));
            due("harm(1) in hands", x.harm(1), 0);
            x.putIn(g, 1);
            due("harm(1) of " + g, x.harm(1), 1 << g);
            x.pass(1);
            due("harm(1) on the tray", x.harm(1), 0);
            x.take(g, g);
            due("harm(1), eaten", x.harm(1), 0);
        }
        ToastBelt several = laid("l4;k2;h10,10;g0,0,9;g0,23,23;g0,19,19;");
        several.putIn(1, 0);
        several.putIn(2, 1);
        due("harm(2) of two", several.harm(2), 0);
        due("harm(1) of two, 12 + 11 and 10 + 9 by the knob as it is", several.harm(1), 6);
        due("harm(9) of two", several.harm(9), 6);
        ToastBelt all = laid("l40;k1;h0,0;" + "g2,0,0;".repeat(9));
        for (int g = 0; g <= 8; g++) {
            all.putIn(g, g % 2);
            all.pass(g % 2);
        }
        due("harm(9) of nothing but right ones", all.harm(9), 0);
    }

    /** ROUND is asked first, so that it can not live on what SHARE has found. */
    private static void sharesAre(ToastBelt x, int total, int... want) {
        int round = 0;
        for (int g = 0; g < want.length; g++) {
            round += want[g] != NONE && want[g] != g ? 1 : 0;
        }
        due("round()", x.round(), round);
        for (int g = 0; g < want.length; g++) {
            due("share(" + g + ")", x.share(g), want[g]);
        }
        due("share(-1)", x.share(-1), total);
    }

    /** All slices of one kind, each so brown as told (-1: in its hand); guests as told. */
    private static ToastBelt trayOf(String guests, int... brown) {
        ToastBelt x = laid("l2;k9;h0,30;" + guests);
        for (int s = 0; s < brown.length; s++) {
            // An empty belt gains 1 a moment, and one slice alone keeps the heat: browns have to come rising.
            if (brown[s] >= 0) {
                if (brown[s] > x.count(3)) {
                    x.pass(brown[s] - x.count(3));
                }
                x.putIn(s, 1);
                x.pass(1);
                due("slice(" + s + ", 3)", x.slice(s, 3), brown[s]);
            }
        }
        return x;
    }

    private static void share() {
        sentence = "SHARE: that by which most are RIGHT for them (only such are TAKEN)";
        sharesAre(trayOf("g0,5,5;"), 0, NONE);
        sharesAre(trayOf("g0,5,5;", 5), 1, 0);
        sharesAre(trayOf("g0,5,5;", 4), 0, NONE);
        sharesAre(trayOf("g0,5,5;", 6), 0, NONE);
        sharesAre(trayOf("g0,5,6;g0,5,5;", 5, 6), 2, 1, 0);
        sharesAre(trayOf("g0,6,6;g0,5,5;g0,5,6;", 5, 6, -1), 2, 1, 0, NONE);
        sentence = "of several the first (by GUEST 0's SLICE, the lowest, none behind all, then 1's, ..)";
        sharesAre(trayOf("g0,5,6;g0,5,6;", 5, 6), 2, 0, 1);
        sharesAre(trayOf("g0,5,6;g0,5,6;g0,5,6;", 5, 6), 2, 0, 1, NONE);
        sharesAre(trayOf("g0,6,6;g0,5,6;g0,5,6;", 5, 6), 2, 1, 0, NONE);
        sharesAre(trayOf("g0,9,9;g0,5,6;g0,5,6;", 5, 6), 2, NONE, 0, 1);
        sharesAre(trayOf("g0,5,9;g0,5,6;g0,5,5;", 5, 6, 7), 3, 2, 1, 0);
        sharesAre(trayOf("g0,5,7;g0,5,7;g0,5,5;", 5, 6, 7), 3, 1, 2, 0);
        // Guest 0 has one though then neither of the others can: one alone either way, and his comes first.
        sharesAre(trayOf("g0,5,5;g0,5,5;g0,5,5;", 5), 1, 0, NONE, NONE);
        // Two of three, whoever stays without: guest 2 does, being last.
        sharesAre(trayOf("g0,5,5;g0,5,6;g0,6,6;", 5, 6), 2, 0, 1, NONE);
        sentence = "GUESTS who have EATEN none";
        ToastBelt x = trayOf("g0,5,6;g0,5,6;g0,5,6;", 5, 5, 6);
        x.take(0, 2);
        sharesAre(x, 2, NONE, 0, 1);
        x.take(1, 1);
        sharesAre(x, 1, NONE, NONE, 0);
        x.take(2, 0);
        sharesAre(x, 0, NONE, NONE, NONE);
        sentence = "SHARE and ROUND of 9";
        String all = "g0,0,9;".repeat(9);
        sharesAre(trayOf(all, 0, 1, 2, 3, 4, 5, 6, 7, 8), 9, 0, 1, 2, 3, 4, 5, 6, 7, 8);
        String moved = "g0,1,1;g0,2,2;g0,3,3;g0,4,4;g0,5,5;g0,6,6;g0,7,7;g0,8,8;g0,0,0;";
        ToastBelt nine = trayOf(moved, 0, 1, 2, 3, 4, 5, 6, 7, 8);
        sharesAre(nine, 9, 1, 2, 3, 4, 5, 6, 7, 8, 0);
        due("round() of 9", nine.round(), 9);
        // The last guest wants the first slice alone, so that each of the others moves on by one.
        String chain = "g0,0,1;g0,1,2;g0,2,3;g0,3,4;g0,4,5;g0,5,6;g0,6,7;g0,7,8;g0,0,0;";
        sharesAre(trayOf(chain, 0, 1, 2, 3, 4, 5, 6, 7, 8), 9, 1, 2, 3, 4, 5, 6, 7, 8, 0);
        // One slice too few: the last one stays without, and all others have their own.
        sharesAre(trayOf(chain, 0, 1, 2, 3, 4, 5, 6, 7, -1), 8, 0, 1, 2, 3, 4, 5, 6, 7, NONE);
    }

    // ---- 4: what was seen

    private static void seen() {
        sentence = "SEEN (6 at most)";
        ToastBelt x = new ToastBelt();
        for (int many = 1; many <= 6; many++) {
            due("seen()", x.seen(0, 1, 3, 48), many);
            due("count(8)", x.count(8), many);
        }
        due("the seventh", x.seen(0, 1, 3, 48), FULL);
        due("count(8)", x.count(8), 6);
        due("the seventh, another one", x.seen(0, 1, 3, 54), FULL);
        due("hot(1)", x.hot(1), 8);
        due("forget()", x.forget(), 6);
        due("forget() again", x.forget(), 0);
        due("seen() anew", x.seen(0, 1, 3, 54), 1);
        due("hot(1)", x.hot(1), 9);
        ToastBelt sixth = new ToastBelt();
        for (int i = 0; i < 5; i++) {
            sixth.seen(0, 1, 3, 48);
        }
        due("hot(0) of five", sixth.hot(0), 1);
        sixth.seen(0, 1, 3, 54);
        due("hot(0) of six, the last one another", sixth.hot(0), 0);
        due("hot(1)", sixth.hot(1), NONE);
    }

    private static void hotBy(String belt, int kind, int lane, int k, int v, int many, int least) {
        ToastBelt x = laid(belt + "g0,1,2;");
        due("seen()", x.seen(kind, lane, k, v), 1);
        String of = " by " + kind + ", " + lane + ", " + k + ", " + v + " of " + belt;
        due("hot(0)" + of, x.hot(0), many);
        due("hot(1)" + of, x.hot(1), least);
    }

    private static void hot() {
        sentence = "HOT: of how much HEAT (0 to 30) it can have been then";
        for (int heat = 0; heat <= 30; heat++) {
            hotBy("l2;", 0, 1, 9, heat, 1, heat);
            hotBy("l2;", 0, 0, 9, heat + 2, 1, heat);
            hotBy("l2;", 3, 1, 9, 2 * heat, 1, heat);
        }
        hotBy("l2;", 0, 1, 9, 31, 0, NONE);
        hotBy("l2;", 0, 0, 9, 1, 0, NONE);
        hotBy("l2;", 0, 0, 9, 33, 0, NONE);
        hotBy("l2;", 3, 1, 9, 61, 0, NONE);
        hotBy("l2;", 3, 1, 9, 62, 0, NONE);
        hotBy("l2;", 1, 1, 9, 0, 2, 0);
        hotBy("l2;", 1, 1, 9, 14, 2, 28);
        hotBy("l2;", 1, 1, 9, 15, 1, 30);
        hotBy("l2;", 1, 1, 9, 16, 0, NONE);
        hotBy("l2;", 1, 0, 9, 0, 0, NONE);
        hotBy("l2;", 1, 0, 9, 1, 2, 0);
        hotBy("l2;", 1, 0, 9, 16, 1, 30);
        hotBy("l2;", 2, 1, 9, 0, 4, 0);
        hotBy("l2;", 2, 0, 9, 0, 2, 0);
        hotBy("l2;", 2, 1, 9, 27, 1, 30);
        hotBy("l2;", 2, 1, 9, 28, 0, NONE);
        sentence = "came out v (0 to 999) BROWN, into this BELT, at KNOB k";
        hotBy("l37;", 0, 1, 1, 999, 1, 27);
        hotBy("l37;", 0, 0, 1, 999, 1, 25);
        hotBy("l36;", 0, 1, 1, 999, 0, NONE);
        hotBy("l40;", 0, 1, 1, 40, 1, 1);
        hotBy("l40;", 0, 1, 9, 5, 1, 1);
        hotBy("l2;", 0, 1, 1, 2, 1, 1);
        hotBy("l2;", 0, 1, 2, 1, 1, 1);
        hotBy("l9;", 0, 1, 8, 2, 1, 1);
        hotBy("l9;", 0, 1, 9, 1, 1, 1);
        hotBy("l10;", 0, 1, 9, 2, 1, 1);
        hotBy("l10;k9;h30,30;", 0, 1, 9, 2, 1, 1);
    }

    private static void left() {
        sentence = "LEFT for a GUEST and n (0 to 8) others: how likely his is left, in lowest terms";
        for (int alike = 1; alike <= 9; alike++) {
            ToastBelt x = laid("l2;k9;h9,9;" + "g0,0,99;".repeat(alike) + "g1,0,99;".repeat(9 - alike));
            for (int s = 0; s < 9; s++) {
                x.putIn(s, 0);
                x.pass(1);
            }
            due("count(6)", x.count(6), 9);
            for (int n = 0; n <= 8; n++) {
                int above = alike > n ? alike - n : 0;
                int below = alike;
                for (int d = 2; d <= 9; d++) {
                    while (above % d == 0 && below % d == 0 && below > 1) {
                        above /= d;
                        below /= d;
                    }
                }
                String of = " of " + alike + ", " + n + " take";
                for (int g : new int[] {0, alike - 1}) {
                    due("left(g, n, 0)" + of, x.left(g, n, 0), above);
                    due("left(g, n, 1)" + of, x.left(g, n, 1), below);
                }
            }
        }
        sentence = "LEFT: lies on the TRAY with others of its KIND";
        ToastBelt x = laid("l2;k9;h9,9;" + "g0,0,99;".repeat(4));
        for (int s = 0; s < 3; s++) {
            x.putIn(s, 0);
            x.pass(1);
        }
        due("below of three", x.left(0, 1, 1), 3);
        x.take(3, 2);
        due("below of two", x.left(0, 1, 1), 2);
        x.putIn(1, 0);
        due("above of one", x.left(0, 1, 0), 0);
        due("below of one", x.left(0, 1, 1), 1);
        due("above of one, none takes", x.left(0, 0, 0), 1);
    }

    private static void morning() {
        sentence = "A MORNING by z (0 to 9999) of n (1 to 40) MOMENTS from now on";
        ToastBelt x = laid("l2;k1;h0,30;g0,99,0;");
        // The guest is drawn each time, puts his slice in ahead of the first moment, and never has one that is right.
        int[] zs = {0, 1, 9998, 9999};
        for (int z : zs) {
            due("morning(z, 1, 1)", x.morning(z, 1, 1), 0);
            due("morning(z, 2, 1)", x.morning(z, 2, 1), 0);
            due("morning(z, 3, 1)", x.morning(z, 3, 1), 1);
            due("morning(z, 31, 1)", x.morning(z, 31, 1), 29);
            due("morning(z, 32, 1)", x.morning(z, 32, 1), 30);
            due("morning(z, 40, 1)", x.morning(z, 40, 1), 30);
            due("morning(z, 40, 0)", x.morning(z, 40, 0), 0);
        }
        due("a morning leaves the moments", x.count(4), 0);
        due("a morning leaves the hands", x.slice(0, 0), HAND);
        sentence = "DRAW being ((x times x) modulo 65521) by 4, cut, x 7919 z, 6151 (the MOMENT, 0 first) and 1 together";
        // Who and which lane at moment 0, told by content() 2 moments later: heat 10, white, 1 place a moment.
        for (int z = 0; z <= 9999; z += z < 40 || z > 9950 ? 1 : 331) {
            long square = (7919L * z + 1) * (7919L * z + 1);
            int draw = (int) (square % 65521 / 4);
            int lane = draw / 16 % 2;
            ToastBelt one = laid("l2;k1;h10,10;g0," + (lane == 0 ? "24,24;" : "20,20;"));
            due("morning(" + z + ", 2, 0), not taken yet", one.morning(z, 2, 0), 0);
            due("morning(" + z + ", 3, 0)", one.morning(z, 3, 0), 1);
        }
        // Guest by DRAW modulo 9: on a belt of 2 places at knob 9 each has fallen behind a moment.
        // The largest x: z = 9999 at moment 39 is 79421971, DRAW 12478, guest 4 into lane 1.
        sentence = "ahead of each GUEST DRAW modulo as many";
        for (int z : new int[] {0, 7, 4711, 9999}) {
            for (int n = 1; n <= 40; n++) {
                ToastBelt nine = laid("l2;k9;h0,0;" + "g1,0,99;".repeat(9));
                due("morning(" + z + ", " + n + ", 0)", nine.morning(z, n, 0), drawnMorning(z, n));
            }
        }
    }

    /** Nine guests alike, whom each slice suits, on a belt that takes a moment: CONTENT behind n moments. */
    private static int drawnMorning(int z, int n) {
        boolean[] put = new boolean[9], tray = new boolean[9];
        int bits = 0;
        for (int moment = 0; moment < n; moment++) {
            java.math.BigInteger x = java.math.BigInteger.valueOf(7919L * z + 6151L * moment + 1);
            int draw = x.pow(2).mod(java.math.BigInteger.valueOf(65521)).intValue() / 4;
            int g = draw % 9;
            int riding = -1;
            if (!put[g]) {
                put[g] = true;
                riding = g;
            }
            for (int s = 0; s < 9 && (bits >> g & 1) == 0; s++) {
                if (tray[s]) {
                    tray[s] = false;
                    bits |= 1 << g;
                }
            }
            if (riding >= 0) {
                tray[riding] = true;
            }
        }
        return bits;
    }

    private static void morningActs() {
        sentence = "PUTS his SLICE IN, from his HAND, if he can; then he TAKES the lowest SLICE on the TRAY that is RIGHT";
        // z = 0, moment 0: DRAW 0, guest 0, lane 0.
        ToastBelt taken = laid("l2;k1;h10,30;g0,99,0;g0,0,0;g0,0,0;");
        taken.putIn(1, 0);
        due("morning(0, 1, 1), place 0 of lane 0 is taken, one rides", taken.morning(0, 1, 1), 10);
        ToastBelt free = laid("l2;k1;h10,30;g0,99,0;g0,0,0;g0,0,0;");
        free.putIn(1, 1);
        due("morning(0, 1, 1), two ride", free.morning(0, 1, 1), 9);
        ToastBelt tray = laid("l2;k9;h10,30;g0,99,0;");
        tray.putIn(0, 1);
        tray.pass(1);
        due("morning(0, 1, 1), from the tray none is put in", tray.morning(0, 1, 1), 11);
        int[][] cases = {{9, 0}, {10, 1}, {11, 0}};
        for (int[] c : cases) {
            ToastBelt x = laid("l2;k9;h10,30;g0," + c[0] + "," + c[0] + ";");
            x.putIn(0, 1);
            x.pass(1);
            due("morning(0, 1, 0) for " + c[0], x.morning(0, 1, 0), c[1]);
        }
        ToastBelt kinds = laid("l2;k9;h10,30;g0,0,99;g3,0,99;");
        kinds.putIn(1, 1);
        kinds.pass(1);
        due("morning(0, 1, 0), another kind", kinds.morning(0, 1, 0), 0);
        ToastBelt has = laid("l2;k9;h10,30;g0,99,0;g0,0,99;");
        has.putIn(1, 1);
        has.pass(1);
        has.take(0, 1);
        has.putIn(1, 1);
        due("morning(0, 1, 0), has eaten what is not right", has.morning(0, 1, 0), 0);
    }

    private static void keeping() {
        sentence = "KEPT is all as it stands, but what is SEEN: 2 at most";
        ToastBelt x = laid("l2;k1;h9,9;g0,0,99;g0,0,99;");
        due("back() of none", x.back(), NO);
        due("keep()", x.keep(), 1);
        x.putIn(0, 0);
        x.pass(2);
        x.take(1, 0);
        x.knob(5);
        x.seen(0, 0, 1, 7);
        due("keep()", x.keep(), 2);
        x.undo();
        x.undo();
        due("the third", x.keep(), FULL);
        due("count(10)", x.count(10), 2);
        due("back()", x.back(), 1);
        due("knob as kept", x.count(2), 5);
        due("eaten as kept", x.slice(0, 4), 1);
        due("guest(1, 3) as kept", x.guest(1, 3), 0);
        due("seen as it is", x.count(8), 1);
        due("keep() anew", x.keep(), 2);
        due("keep(), the third", x.keep(), FULL);
        x.forget();
        due("back()", x.back(), 1);
        due("seen as it is", x.count(8), 0);
        due("back()", x.back(), 0);
        due("knob as kept first", x.count(2), 1);
        due("moments as kept first", x.count(4), 0);
        due("heat as kept first", x.count(3), 9);
        due("hand as kept first", x.slice(0, 0), HAND);
        due("brown as kept first", x.slice(0, 3), 0);
        due("guest(1, 3) as kept first", x.guest(1, 3), NONE);
        due("back() of none", x.back(), NO);
        sentence = "nothing is UNDONE then";
        ToastBelt y = new ToastBelt();
        y.keep();
        for (int i = 0; i < 9; i++) {
            y.knob(1 + i);
        }
        due("count(9)", y.count(9), 8);
        due("back()", y.back(), 0);
        due("count(9)", y.count(9), 0);
        due("undo()", y.undo(), NO);
        due("knob(9)", y.knob(9), 3);
        due("undo()", y.undo(), 0);
        due("count(2)", y.count(2), 3);
        sentence = "undo() and what is KEPT";
        ToastBelt z = new ToastBelt();
        z.pass(1);
        z.keep();
        due("undo() behind keep()", z.undo(), 0);
        due("count(10)", z.count(10), 1);
        due("count(4)", z.count(4), 0);
        due("back()", z.back(), 0);
        due("count(4)", z.count(4), 1);
    }

    private static void manyCalls() {
        sentence = "An object is used for at most 512 calls after it has been made";
        ToastBelt x = new ToastBelt();
        for (int i = 0; i < 128; i++) {
            x.putIn(0, 0);
            x.pass(1);
            x.undo();
            due("undo() of call " + (4 * i + 4), x.undo(), 0);
        }
        ToastBelt y = new ToastBelt();
        for (int i = 0; i < 511; i++) {
            y.knob(1 + i % 9);
        }
        due("call 512", y.undo(), 7);
    }

    public static void main(String[] args) {
        letters();
        numbers();
        oneLetterOff();
        guestsOfText();
        without();
        firstFault();
        layingAnew();
        places();
        browner();
        cooling();
        puttingIn();
        taking();
        right();
        moments();
        undoing();
        contentBits();
        knobFor();
        often();
        waits();
        harm();
        share();
        seen();
        hot();
        left();
        morning();
        morningActs();
        keeping();
        manyCalls();
        System.out.println(wrong == 0 ? "all edges hold" : wrong + " answers are not as due");
        if (wrong != 0) {
            System.exit(1);
        }
    }
}
