import java.math.BigInteger;
import java.util.ArrayDeque;
import java.util.ArrayList;
import java.util.Arrays;
import java.util.Deque;
import java.util.List;
import java.util.Random;
import java.util.regex.Matcher;
import java.util.regex.Pattern;

/** Runs of drawn calls on the class and on a second model, written from the document in another way. */
public final class ModelTest {
    private static final int BAD = -1, NO = -2, FULL = -3, NONE = -4;
    private static final int RUNS = 4000, CALLS = 512;

    private record Guest(int kind, int b, int w) {
        boolean likes(int brown) {
            return brown >= b && brown <= w;
        }
    }

    private record Layout(int length, int knob, int heat, int most, List<Guest> guests) { }

    private record Sight(int kind, int lane, int knob, int v) { }

    /** One slice; place -1 is the hand, 100 the tray, 200 eaten. */
    private static final class Bread {
        int lane = NONE, place = -1, brown = 0, eater = NONE;

        Bread copy() {
            Bread b = new Bread();
            b.lane = lane;
            b.place = place;
            b.brown = brown;
            b.eater = eater;
            return b;
        }

        boolean rides() {
            return place >= 0 && place < 100;
        }

        boolean loose() {
            return place == -1 || place == 100;
        }
    }

    private static final class World {
        Layout layout;
        int knob, heat, time;
        List<Bread> breads = new ArrayList<>();

        static World of(Layout layout) {
            World w = new World();
            w.layout = layout;
            w.knob = layout.knob();
            w.heat = layout.heat();
            for (int i = 0; i < layout.guests().size(); i++) {
                w.breads.add(new Bread());
            }
            return w;
        }

        World copy() {
            World w = new World();
            w.layout = layout;
            w.knob = knob;
            w.heat = heat;
            w.time = time;
            breads.forEach(b -> w.breads.add(b.copy()));
            return w;
        }

        Guest who(int g) {
            return layout.guests().get(g);
        }

        int riding() {
            return (int) breads.stream().filter(Bread::rides).count();
        }

        void moment() {
            int load = riding();
            for (int i = 0; i < breads.size(); i++) {
                Bread b = breads.get(i);
                if (b.rides()) {
                    int hot = heat + (b.lane == 0 ? 2 : 0);
                    int kind = who(i).kind();
                    b.brown += kind == 0 ? hot : kind == 1 ? hot >> 1 : kind == 2 ? (hot < 3 ? 0 : hot - 3) : hot + hot;
                }
            }
            for (Bread b : breads) {
                if (b.rides()) {
                    b.place += knob;
                    if (b.place > layout.length() - 1) {
                        b.place = 100;
                        b.lane = NONE;
                    }
                }
            }
            if (load == 0) {
                heat += heat < layout.most() ? 1 : 0;
            } else {
                heat -= load >> 1;
                heat = heat < 0 ? 0 : heat;
            }
            time++;
        }

        boolean startFree(int lane) {
            return breads.stream().noneMatch(b -> b.place == 0 && b.lane == lane);
        }

        void put(int g, int lane) {
            breads.get(g).lane = lane;
            breads.get(g).place = 0;
        }

        int eatenBy(int g) {
            for (int s = 0; s < breads.size(); s++) {
                if (breads.get(s).eater == g) {
                    return s;
                }
            }
            return NONE;
        }

        boolean mayTake(int g, int s) {
            return eatenBy(g) == NONE && breads.get(s).place == 100 && who(g).kind() == who(s).kind();
        }

        void eat(int g, int s) {
            breads.get(s).eater = g;
            breads.get(s).place = 200;
        }

        boolean right(int g, int s) {
            return who(g).likes(breads.get(s).brown);
        }

        int content() {
            int bits = 0;
            for (int g = 0; g < breads.size(); g++) {
                int s = eatenBy(g);
                bits += s != NONE && right(g, s) ? 1 << g : 0;
            }
            return bits;
        }

        /** What stands once g's slice has fallen. */
        World whenFallen(int g) {
            World w = copy();
            while (w.breads.get(g).rides()) {
                w.moment();
            }
            return w;
        }
    }

    private static final class Model {
        String text = "";
        Layout layout = read("l18;k3;h8,12;g0,40,60;g0,50,80;g1,20,40;g2,30,60;g3,60,99;g0,10,45;");
        World now = World.of(layout);
        Deque<World> past = new ArrayDeque<>();
        Deque<World> kept = new ArrayDeque<>();
        List<Sight> sights = new ArrayList<>();

        static final Pattern ITEM = Pattern.compile("([lk])(\\d{1,2});|(h)(\\d{1,2}),(\\d{1,2});|(g)(\\d{1,2}),(\\d{1,2}),(\\d{1,2});");

        static int faultOf(String text) {
            Matcher m = ITEM.matcher(text);
            int at = 0, guests = 0;
            while (at < text.length()) {
                if (!m.find(at) || m.start() != at) {
                    return at;
                }
                String item = m.group();
                String[] n = item.substring(1, item.length() - 1).split(",");
                int first = Integer.parseInt(n[0]);
                boolean so;
                switch (item.charAt(0)) {
                    case 'l' -> so = first >= 2 && first <= 40;
                    case 'k' -> so = first >= 1 && first <= 9;
                    case 'h' -> so = first <= 30 && Integer.parseInt(n[1]) <= 30;
                    default -> so = first <= 3 && ++guests <= 9;
                }
                if (!so) {
                    return at;
                }
                at = m.end();
            }
            return NONE;
        }

        static Layout read(String text) {
            int l = 18, k = 3, h = 8, m = 12;
            List<Guest> guests = new ArrayList<>();
            for (String item : text.split(";")) {
                int[] n = Arrays.stream(item.substring(1).split(",")).mapToInt(Integer::parseInt).toArray();
                switch (item.charAt(0)) {
                    case 'l' -> l = n[0];
                    case 'k' -> k = n[0];
                    case 'h' -> { h = n[0]; m = n[1]; }
                    default -> guests.add(new Guest(n[0], n[1], n[2]));
                }
            }
            return new Layout(l, k, h, m, guests);
        }

        boolean none(int g) {
            return g < 0 || g >= layout.guests().size();
        }

        void act() {
            past.push(now.copy());
            if (past.size() > 8) {
                past.removeLast();
            }
        }

        int write(int letter) {
            if (letter < 32 || letter > 126) {
                return BAD;
            }
            if (text.length() == 200) {
                return FULL;
            }
            text += (char) letter;
            return text.length();
        }

        int wipe() {
            int was = text.length();
            text = "";
            return was;
        }

        int lay() {
            if (faultOf(text) != NONE || text.indexOf('g') < 0) {
                return NO;
            }
            layout = read(text);
            now = World.of(layout);
            past.clear();
            kept.clear();
            sights.clear();
            return layout.guests().size();
        }

        int guest(int g, int what) {
            if (none(g) || what < 0 || what > 3) {
                return BAD;
            }
            Guest q = layout.guests().get(g);
            return new int[] {q.kind(), q.b(), q.w(), now.eatenBy(g)}[what];
        }

        int slice(int g, int what) {
            if (none(g) || what < 0 || what > 5) {
                return BAD;
            }
            Bread b = now.breads.get(g);
            int state = b.place == -1 ? 0 : b.place == 100 ? 2 : b.place == 200 ? 3 : 1;
            return new int[] {state, b.rides() ? b.lane : NONE, b.rides() ? b.place : NONE, b.brown, b.eater,
                now.right(g, g) ? 1 : 0}[what];
        }

        int putIn(int g, int lane) {
            if (none(g) || lane < 0 || lane > 1) {
                return BAD;
            }
            if (!now.breads.get(g).loose() || !now.startFree(lane)) {
                return NO;
            }
            act();
            now.put(g, lane);
            return now.riding();
        }

        int pass(int n) {
            if (n < 1 || n > 60) {
                return BAD;
            }
            if (now.time + n > 999) {
                return NO;
            }
            act();
            int before = now.riding();
            for (int i = 0; i < n; i++) {
                now.moment();
            }
            return before - now.riding();
        }

        int knob(int k) {
            if (k < 1 || k > 9) {
                return BAD;
            }
            act();
            int was = now.knob;
            now.knob = k;
            return was;
        }

        int take(int g, int s) {
            if (none(g) || none(s)) {
                return BAD;
            }
            if (!now.mayTake(g, s)) {
                return NO;
            }
            act();
            now.eat(g, s);
            return now.right(g, s) ? 1 : 0;
        }

        int undo() {
            if (past.isEmpty()) {
                return NO;
            }
            now = past.pop();
            return past.size();
        }

        int falls(int g) {
            if (none(g)) {
                return BAD;
            }
            return now.breads.get(g).rides() ? now.whenFallen(g).time - now.time : NONE;
        }

        int willBe(int g) {
            if (none(g)) {
                return BAD;
            }
            return now.breads.get(g).place == 200 ? NONE : now.whenFallen(g).breads.get(g).brown;
        }

        int refusal(int g, int lane) {
            if (none(g) || lane < 0 || lane > 1) {
                return BAD;
            }
            return now.breads.get(g).loose() ? 0 : NO;
        }

        int knobFor(int g, int lane) {
            if (refusal(g, lane) != 0) {
                return refusal(g, lane);
            }
            for (int k = 1; k < 10; k++) {
                World w = now.copy();
                w.knob = k;
                w.put(g, lane);
                if (w.whenFallen(g).right(g, g)) {
                    return k;
                }
            }
            return NONE;
        }

        int often(int g, int lane) {
            if (refusal(g, lane) != 0) {
                return refusal(g, lane);
            }
            World w = now.copy();
            for (int times = 1; times < 6; times++) {
                w.put(g, lane);
                w = w.whenFallen(g);
                if (w.right(g, g)) {
                    return times;
                }
            }
            return NONE;
        }

        int waits(int g, int lane) {
            if (refusal(g, lane) != 0) {
                return refusal(g, lane);
            }
            for (int wait = 0; wait < 31; wait++) {
                World w = now.copy();
                for (int i = 0; i < wait; i++) {
                    w.moment();
                }
                w.put(g, lane);
                if (w.whenFallen(g).right(g, g)) {
                    return wait;
                }
            }
            return NONE;
        }

        int harm(int k) {
            if (k < 1 || k > 9) {
                return BAD;
            }
            World other = now.copy();
            other.knob = k;
            int bits = 0;
            for (int g = 0; g < now.breads.size(); g++) {
                boolean rides = now.breads.get(g).rides();
                if (rides && now.whenFallen(g).right(g, g) && !other.whenFallen(g).right(g, g)) {
                    bits |= 1 << g;
                }
            }
            return bits;
        }

        /** The best that guests from g on can have of the free ones: how many, then who takes which. */
        int[] best(int g, int free, int[][][] known) {
            int n = now.breads.size();
            if (g == n) {
                return new int[n + 1];
            }
            if (known[g][free] != null) {
                return known[g][free];
            }
            int[] found = null;
            for (int s = 0; s <= n; s++) {
                boolean none = s == n;
                if (!none && ((free >> s & 1) == 0 || !now.mayTake(g, s) || !now.right(g, s))) {
                    continue;
                }
                int[] rest = best(g + 1, none ? free : free ^ 1 << s, known).clone();
                rest[0] += none ? 0 : 1;
                rest[g + 1] = none ? NONE : s;
                if (found == null || rest[0] > found[0]) {
                    found = rest;
                }
            }
            known[g][free] = found;
            return found;
        }

        int[] best() {
            int n = now.breads.size();
            return best(0, (1 << n) - 1, new int[n][1 << n][]);
        }

        int share(int g) {
            if (g < -1 || g >= now.breads.size()) {
                return BAD;
            }
            return best()[g + 1];
        }

        int round() {
            int[] way = best();
            int many = 0;
            for (int g = 0; g < now.breads.size(); g++) {
                many += way[g + 1] >= 0 && way[g + 1] != g ? 1 : 0;
            }
            return many;
        }

        int seen(int kind, int lane, int k, int v) {
            if (kind < 0 || kind > 3 || lane < 0 || lane > 1 || k < 1 || k > 9 || v < 0 || v > 999) {
                return BAD;
            }
            if (sights.size() == 6) {
                return FULL;
            }
            sights.add(new Sight(kind, lane, k, v));
            return sights.size();
        }

        int forget() {
            int were = sights.size();
            sights.clear();
            return were;
        }

        int hot(int what) {
            if (what != 0 && what != 1) {
                return BAD;
            }
            List<Integer> heats = new ArrayList<>();
            for (int h = 0; h < 31; h++) {
                boolean all = true;
                for (Sight s : sights) {
                    World w = World.of(new Layout(layout.length(), s.knob(), h, layout.most(),
                        List.of(new Guest(s.kind(), 0, 0))));
                    w.put(0, s.lane());
                    all &= w.whenFallen(0).breads.get(0).brown == s.v();
                }
                if (all) {
                    heats.add(h);
                }
            }
            return what == 0 ? heats.size() : heats.isEmpty() ? NONE : heats.get(0);
        }

        int left(int g, int n, int part) {
            if (none(g) || n < 0 || n > 8 || part < 0 || part > 1) {
                return BAD;
            }
            if (now.breads.get(g).place != 100) {
                return NO;
            }
            int alike = 0;
            for (int s = 0; s < now.breads.size(); s++) {
                alike += now.breads.get(s).place == 100 && now.who(s).kind() == now.who(g).kind() ? 1 : 0;
            }
            // Each one who takes leaves his slice with (m - 1) of m, m ever one less.
            BigInteger above = BigInteger.ONE, below = BigInteger.ONE;
            for (int i = 0; i < n && alike - i > 0; i++) {
                above = above.multiply(BigInteger.valueOf(alike - i - 1));
                below = below.multiply(BigInteger.valueOf(alike - i));
            }
            BigInteger d = above.gcd(below);
            return (part == 0 ? above : below).divide(d).intValueExact();
        }

        int morning(int z, int n, int what) {
            if (z < 0 || z > 9999 || n < 1 || n > 40 || what < 0 || what > 1) {
                return BAD;
            }
            World w = now.copy();
            for (int m = 0; m < n; m++) {
                BigInteger x = BigInteger.valueOf(7919).multiply(BigInteger.valueOf(z))
                    .add(BigInteger.valueOf(6151L * m + 1));
                int draw = x.multiply(x).mod(BigInteger.valueOf(65521)).intValueExact() >> 2;
                int g = draw % w.breads.size();
                int lane = (draw >> 4) & 1;
                if (w.breads.get(g).place == -1 && w.startFree(lane)) {
                    w.put(g, lane);
                }
                for (int s = 0; s < w.breads.size(); s++) {
                    if (w.mayTake(g, s) && w.right(g, s)) {
                        w.eat(g, s);
                    }
                }
                w.moment();
            }
            return what == 0 ? w.content() : w.heat;
        }

        int keep() {
            if (kept.size() == 2) {
                return FULL;
            }
            kept.push(now.copy());
            return kept.size();
        }

        int back() {
            if (kept.isEmpty()) {
                return NO;
            }
            now = kept.pop();
            past.clear();
            return kept.size();
        }

        int count(int what) {
            if (what < 0 || what > 11) {
                return BAD;
            }
            int tray = (int) now.breads.stream().filter(b -> b.place == 100).count();
            int eaten = (int) now.breads.stream().filter(b -> b.eater != NONE).count();
            return new int[] {now.breads.size(), layout.length(), now.knob, now.heat, now.time, now.riding(), tray, eaten,
                sights.size(), past.size(), kept.size(), text.length()}[what];
        }
    }

    private static int wrong = 0;
    private static int calls = 0;
    private static final String[] NAMES = {"write", "wipe", "fault", "lay", "guest", "slice", "putIn", "pass", "knob",
        "take", "undo", "falls", "willBe", "content", "knobFor", "often", "waits", "harm", "share", "round", "seen",
        "forget", "hot", "left", "morning", "keep", "back", "count"};

    private static int ask(ToastBelt x, int call, int a, int b, int c, int d) {
        return switch (call) {
            case 0 -> x.write(a);
            case 1 -> x.wipe();
            case 2 -> x.fault();
            case 3 -> x.lay();
            case 4 -> x.guest(a, b);
            case 5 -> x.slice(a, b);
            case 6 -> x.putIn(a, b);
            case 7 -> x.pass(a);
            case 8 -> x.knob(a);
            case 9 -> x.take(a, b);
            case 10 -> x.undo();
            case 11 -> x.falls(a);
            case 12 -> x.willBe(a);
            case 13 -> x.content();
            case 14 -> x.knobFor(a, b);
            case 15 -> x.often(a, b);
            case 16 -> x.waits(a, b);
            case 17 -> x.harm(a);
            case 18 -> x.share(a);
            case 19 -> x.round();
            case 20 -> x.seen(a, b, c, d);
            case 21 -> x.forget();
            case 22 -> x.hot(a);
            case 23 -> x.left(a, b, c);
            case 24 -> x.morning(a, b, c);
            case 25 -> x.keep();
            case 26 -> x.back();
            default -> x.count(a);
        };
    }

    private static int askModel(Model x, int call, int a, int b, int c, int d) {
        return switch (call) {
            case 0 -> x.write(a);
            case 1 -> x.wipe();
            case 2 -> Model.faultOf(x.text);
            case 3 -> x.lay();
            case 4 -> x.guest(a, b);
            case 5 -> x.slice(a, b);
            case 6 -> x.putIn(a, b);
            case 7 -> x.pass(a);
            case 8 -> x.knob(a);
            case 9 -> x.take(a, b);
            case 10 -> x.undo();
            case 11 -> x.falls(a);
            case 12 -> x.willBe(a);
            case 13 -> x.now.content();
            case 14 -> x.knobFor(a, b);
            case 15 -> x.often(a, b);
            case 16 -> x.waits(a, b);
            case 17 -> x.harm(a);
            case 18 -> x.share(a);
            case 19 -> x.round();
            case 20 -> x.seen(a, b, c, d);
            case 21 -> x.forget();
            case 22 -> x.hot(a);
            case 23 -> x.left(a, b, c);
            case 24 -> x.morning(a, b, c);
            case 25 -> x.keep();
            case 26 -> x.back();
            default -> x.count(a);
        };
    }

    private static int both(ToastBelt x, Model m, int run, int call, int... args) {
        int[] a = Arrays.copyOf(args, 4);
        int got = ask(x, call, a[0], a[1], a[2], a[3]);
        int want = askModel(m, call, a[0], a[1], a[2], a[3]);
        calls++;
        if (got != want) {
            wrong++;
            System.out.println("run " + run + ": " + NAMES[call] + Arrays.toString(args) + " answered " + got
                + ", due is " + want);
        }
        return got;
    }

    private static String drawText(Random r) {
        StringBuilder b = new StringBuilder();
        boolean shortBelt = r.nextInt(2) == 0;
        if (r.nextInt(3) > 0) {
            b.append('l').append(shortBelt ? 2 + r.nextInt(6) : 2 + r.nextInt(39)).append(';');
        }
        if (r.nextInt(3) > 0) {
            b.append('k').append(1 + r.nextInt(9)).append(';');
        }
        if (r.nextInt(3) > 0) {
            b.append('h').append(r.nextInt(31)).append(',').append(r.nextInt(31)).append(';');
        }
        int guests = r.nextInt(10) + (r.nextInt(30) == 0 ? 1 : 0);
        int kinds = 1 + r.nextInt(4);
        for (int i = 0; i < guests; i++) {
            int from = r.nextInt(100);
            int to = r.nextInt(8) == 0 ? r.nextInt(100) : Math.min(99, from + r.nextInt(60));
            b.append('g').append(r.nextInt(kinds)).append(',').append(from).append(',').append(to).append(';');
        }
        if (r.nextInt(5) == 0 && b.length() > 0) {
            b.setCharAt(r.nextInt(b.length()), "lkhg0123456789,; x".charAt(r.nextInt(18)));
        }
        return b.toString();
    }

    /** Mostly a number that is told, now and then one beside. */
    private static int near(Random r, int least, int most) {
        return r.nextInt(25) == 0 ? (r.nextBoolean() ? least - 1 : most + 1) : least + r.nextInt(most - least + 1);
    }

    private static void tell(ToastBelt x, Model m, Random r, int run) {
        if (r.nextInt(6) > 0) {
            both(x, m, run, 1);
        }
        String text = drawText(r);
        for (int i = 0; i < text.length(); i++) {
            both(x, m, run, 0, text.charAt(i));
        }
        both(x, m, run, 2);
        both(x, m, run, 3);
    }

    private static void drawCall(ToastBelt x, Model m, Random r, int run) {
        int last = m.layout.guests().size() - 1;
        int g = near(r, 0, last);
        int lane = near(r, 0, 1);
        // Where few take, the tray fills and there is more to share.
        int[] likely = run % 2 == 0 ? new int[] {6, 6, 6, 7, 7, 7, 8, 9, 9, 9, 10} : new int[] {6, 6, 6, 6, 7, 7, 18, 8};
        int call = r.nextInt(2) == 0 ? likely[r.nextInt(likely.length)] : r.nextInt(28);
        switch (call) {
            case 0 -> both(x, m, run, 0, near(r, 32, 126));
            case 1, 3 -> {
                if (r.nextInt(10) == 0) {
                    both(x, m, run, call);
                }
            }
            case 4 -> both(x, m, run, 4, g, near(r, 0, 3));
            case 5 -> both(x, m, run, 5, g, near(r, 0, 5));
            case 6, 14, 15, 16 -> both(x, m, run, call, g, lane);
            case 7 -> both(x, m, run, 7, r.nextInt(4) == 0 ? near(r, 1, 60) : near(r, 1, 8));
            case 8, 17 -> both(x, m, run, call, near(r, 1, 9));
            case 9 -> both(x, m, run, 9, g, near(r, 0, last));
            case 11, 12 -> both(x, m, run, call, g);
            case 18 -> both(x, m, run, 18, near(r, -1, last));
            case 20 -> drawSight(x, m, r, run);
            case 22 -> both(x, m, run, 22, near(r, 0, 1));
            case 23 -> both(x, m, run, 23, g, near(r, 0, 8), near(r, 0, 1));
            case 24 -> both(x, m, run, 24, near(r, 0, 9999), near(r, 1, 40), near(r, 0, 1));
            case 27 -> both(x, m, run, 27, near(r, 0, 11));
            default -> both(x, m, run, call);
        }
    }

    /** Often one that could be so at heat 5. */
    private static void drawSight(ToastBelt x, Model m, Random r, int run) {
        int kind = near(r, 0, 3), lane = near(r, 0, 1), k = near(r, 1, 9);
        int v = near(r, 0, 999);
        if (r.nextInt(3) > 0 && k > 0) {
            int felt = lane == 0 ? 7 : 5;
            int by = kind == 0 ? felt : kind == 1 ? felt / 2 : kind == 2 ? felt - 3 : 2 * felt;
            v = by * ((m.layout.length() + k - 1) / k);
        }
        both(x, m, run, 20, kind, lane, k, v);
    }

    private static void compareAll(ToastBelt x, Model m, int run) {
        for (int what = 0; what < 12; what++) {
            both(x, m, run, 27, what);
        }
        both(x, m, run, 13);
        both(x, m, run, 18, -1);
        both(x, m, run, 19);
        for (int g = 0; g < m.layout.guests().size(); g++) {
            both(x, m, run, 18, g);
            both(x, m, run, 4, g, 3);
            for (int what = 0; what < 6; what++) {
                both(x, m, run, 5, g, what);
            }
        }
    }

    private static void oneRun(int run) {
        Random r = new Random(run);
        ToastBelt x = new ToastBelt();
        Model m = new Model();
        int start = calls;
        if (run % 4 > 0) {
            tell(x, m, r, run);
        }
        while (calls - start < CALLS - 100) {
            if (r.nextInt(60) == 0 && calls - start < 250) {
                tell(x, m, r, run);
            }
            drawCall(x, m, r, run);
        }
        compareAll(x, m, run);
    }

    public static void main(String[] args) {
        for (int run = 0; run < RUNS && wrong < 50; run++) {
            oneRun(run);
        }
        System.out.println(calls + " calls compared; " + (wrong == 0 ? "all alike" : wrong + " are not alike"));
        if (wrong != 0) {
            System.exit(1);
        }
    }
}
