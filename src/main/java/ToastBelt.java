/** A toast belt in a breakfast room; ../shared/DOC.md says what each call answers. */
public final class ToastBelt {
    public static final int BAD = -1, NO = -2, FULL = -3, NONE = -4;

    private static final int MOST_LETTERS = 200;
    private static final int MOST_GUESTS = 9;
    private static final int LEAST_PLACES = 2;
    private static final int MOST_PLACES = 40;
    private static final int MOST_KNOB = 9;
    private static final int MOST_HEAT = 30;
    private static final int MOST_MOMENTS = 999;
    private static final int MOST_MOMENTS_AT_ONCE = 60;
    private static final int MOST_ROUNDS = 5;
    private static final int MOST_WAIT = 30;
    private static final int MOST_SEEN = 6;
    private static final int MOST_SEEN_BROWN = 999;
    private static final int MOST_UNDONE = 8;
    private static final int MOST_KEPT = 2;
    private static final int MOST_OTHERS = 8;
    private static final int MOST_SEED = 9999;
    private static final int MOST_MORNING = 40;

    private static final int WHITE = 0, RYE = 1, THICK = 2, SWEET = 3;
    private static final int IN_HAND = 0, ON_BELT = 1, ON_TRAY = 2, EATEN = 3;
    private static final int HOTTER_LANE = 0, LAST_LANE = 1;

    private static final String FIRST_TEXT =
        "l18;k3;h8,12;g0,40,60;g0,50,80;g1,20,40;g2,30,60;g3,60,99;g0,10,45;";

    private final Text text = new Text();
    private final Plan draft = new Plan();
    private final Plan laid = new Plan();
    private final Belt now = new Belt(laid);
    private final Belt trial = new Belt(laid);
    private final Belt later = new Belt(laid);
    private final Past past = new Past(laid);
    private final Belt[] keptBelts = new Belt[MOST_KEPT];
    private int keptMany;
    private final Sightings sightings = new Sightings();
    private final Sharing sharing = new Sharing();

    public ToastBelt() {
        for (int i = 0; i < MOST_KEPT; i++) {
            keptBelts[i] = new Belt(laid);
        }
        for (int i = 0; i < FIRST_TEXT.length(); i++) {
            text.add(FIRST_TEXT.charAt(i));
        }
        text.readInto(draft);
        startAnew();
        text.clear();
    }

    // ---- belts

    public int write(int letter) {
        if (!within(letter, 32, 126)) {
            return BAD;
        }
        return text.add((char) letter) ? text.length() : FULL;
    }

    public int wipe() {
        int was = text.length();
        text.clear();
        return was;
    }

    public int fault() {
        return text.readInto(draft);
    }

    public int lay() {
        if (text.readInto(draft) != NONE || draft.guests == 0) {
            return NO;
        }
        startAnew();
        return laid.guests;
    }

    public int guest(int g, int what) {
        if (!isGuest(g)) {
            return BAD;
        }
        switch (what) {
            case 0: return laid.kinds[g];
            case 1: return laid.least[g];
            case 2: return laid.most[g];
            case 3: return now.eatenBy(g);
            default: return BAD;
        }
    }

    public int slice(int g, int what) {
        if (!isGuest(g)) {
            return BAD;
        }
        boolean riding = now.where[g] == ON_BELT;
        switch (what) {
            case 0: return now.where[g];
            case 1: return riding ? now.lanes[g] : NONE;
            case 2: return riding ? now.places[g] : NONE;
            case 3: return now.brown[g];
            case 4: return now.eaters[g];
            case 5: return now.isRight(g, g) ? 1 : 0;
            default: return BAD;
        }
    }

    // ---- acts

    public int putIn(int g, int lane) {
        if (!isGuest(g) || !isLane(lane)) {
            return BAD;
        }
        if (!now.canGoIn(g) || !now.isFreeAtStart(lane)) {
            return NO;
        }
        past.remember(now);
        now.setAtStart(g, lane);
        return now.howMany(ON_BELT);
    }

    public int pass(int n) {
        if (!within(n, 1, MOST_MOMENTS_AT_ONCE)) {
            return BAD;
        }
        if (now.moments + n > MOST_MOMENTS) {
            return NO;
        }
        past.remember(now);
        int ridingBefore = now.howMany(ON_BELT);
        for (int i = 0; i < n; i++) {
            now.goOn();
        }
        return ridingBefore - now.howMany(ON_BELT);
    }

    public int knob(int k) {
        if (!isKnob(k)) {
            return BAD;
        }
        past.remember(now);
        int was = now.knobAt;
        now.knobAt = k;
        return was;
    }

    public int take(int g, int s) {
        if (!isGuest(g) || !isGuest(s)) {
            return BAD;
        }
        if (!now.mayEat(g, s)) {
            return NO;
        }
        past.remember(now);
        now.eat(g, s);
        return now.isRight(g, s) ? 1 : 0;
    }

    public int undo() {
        if (past.many == 0) {
            return NO;
        }
        past.bringBack(now);
        return past.many;
    }

    // ---- what will be

    public int falls(int g) {
        if (!isGuest(g)) {
            return BAD;
        }
        if (now.where[g] != ON_BELT) {
            return NONE;
        }
        return momentsThrough(laid.places - now.places[g], now.knobAt);
    }

    public int willBe(int g) {
        if (!isGuest(g)) {
            return BAD;
        }
        if (now.where[g] == EATEN) {
            return NONE;
        }
        trial.copyFrom(now);
        trial.goOnTillFallen(g);
        return trial.brown[g];
    }

    public int content() {
        return now.contentBits();
    }

    public int knobFor(int g, int lane) {
        int refusal = refusalToGoIn(g, lane);
        if (refusal != 0) {
            return refusal;
        }
        for (int k = 1; k <= MOST_KNOB; k++) {
            trial.copyFrom(now);
            trial.knobAt = k;
            if (trial.isRightAfterRide(g, lane)) {
                return k;
            }
        }
        return NONE;
    }

    public int often(int g, int lane) {
        int refusal = refusalToGoIn(g, lane);
        if (refusal != 0) {
            return refusal;
        }
        trial.copyFrom(now);
        for (int times = 1; times <= MOST_ROUNDS; times++) {
            if (trial.isRightAfterRide(g, lane)) {
                return times;
            }
        }
        return NONE;
    }

    public int waits(int g, int lane) {
        int refusal = refusalToGoIn(g, lane);
        if (refusal != 0) {
            return refusal;
        }
        later.copyFrom(now);
        for (int waited = 0; waited <= MOST_WAIT; waited++) {
            trial.copyFrom(later);
            if (trial.isRightAfterRide(g, lane)) {
                return waited;
            }
            later.goOn();
        }
        return NONE;
    }

    public int harm(int k) {
        if (!isKnob(k)) {
            return BAD;
        }
        return rightOnesAtKnob(now.knobAt) & ~rightOnesAtKnob(k);
    }

    public int share(int g) {
        if (g != -1 && !isGuest(g)) {
            return BAD;
        }
        sharing.settle(now);
        return g == -1 ? sharing.total : sharing.chosen[g];
    }

    public int round() {
        sharing.settle(now);
        int swapped = 0;
        for (int g = 0; g < laid.guests; g++) {
            if (sharing.chosen[g] != NONE && sharing.chosen[g] != g) {
                swapped++;
            }
        }
        return swapped;
    }

    // ---- what was seen

    public int seen(int kind, int lane, int k, int v) {
        if (!within(kind, WHITE, SWEET) || !isLane(lane) || !isKnob(k) || !within(v, 0, MOST_SEEN_BROWN)) {
            return BAD;
        }
        return sightings.add(kind, lane, k, v) ? sightings.many : FULL;
    }

    public int forget() {
        int were = sightings.many;
        sightings.many = 0;
        return were;
    }

    public int hot(int what) {
        if (!within(what, 0, 1)) {
            return BAD;
        }
        int howMany = 0;
        int least = NONE;
        for (int heat = 0; heat <= MOST_HEAT; heat++) {
            if (sightings.fit(heat, laid.places)) {
                howMany++;
                least = least == NONE ? heat : least;
            }
        }
        return what == 0 ? howMany : least;
    }

    public int left(int g, int n, int part) {
        if (!isGuest(g) || !within(n, 0, MOST_OTHERS) || !within(part, 0, 1)) {
            return BAD;
        }
        if (now.where[g] != ON_TRAY) {
            return NO;
        }
        int alike = now.alikeOnTray(laid.kinds[g]);
        int remaining = Math.max(0, alike - n);
        int shared = greatestDivisor(remaining, alike);
        return (part == 0 ? remaining : alike) / shared;
    }

    public int morning(int z, int n, int what) {
        if (!within(z, 0, MOST_SEED) || !within(n, 1, MOST_MORNING) || !within(what, 0, 1)) {
            return BAD;
        }
        trial.copyFrom(now);
        for (int moment = 0; moment < n; moment++) {
            trial.actByDraw(draw(z, moment));
            trial.goOn();
        }
        return what == 0 ? trial.contentBits() : trial.heat;
    }

    // ---- kept

    public int keep() {
        if (keptMany >= MOST_KEPT) {
            return FULL;
        }
        keptBelts[keptMany].copyFrom(now);
        keptMany++;
        return keptMany;
    }

    public int back() {
        if (keptMany == 0) {
            return NO;
        }
        keptMany--;
        now.copyFrom(keptBelts[keptMany]);
        past.clear();
        return keptMany;
    }

    public int count(int what) {
        switch (what) {
            case 0: return laid.guests;
            case 1: return laid.places;
            case 2: return now.knobAt;
            case 3: return now.heat;
            case 4: return now.moments;
            case 5: return now.howMany(ON_BELT);
            case 6: return now.howMany(ON_TRAY);
            case 7: return now.howMany(EATEN);
            case 8: return sightings.many;
            case 9: return past.many;
            case 10: return keptMany;
            case 11: return text.length();
            default: return BAD;
        }
    }

    // ---- helpers

    private void startAnew() {
        laid.copyFrom(draft);
        now.begin();
        past.clear();
        keptMany = 0;
        sightings.many = 0;
    }

    private boolean isGuest(int g) {
        return within(g, 0, laid.guests - 1);
    }

    private static boolean isLane(int lane) {
        return within(lane, HOTTER_LANE, LAST_LANE);
    }

    private static boolean isKnob(int k) {
        return within(k, 1, MOST_KNOB);
    }

    private static boolean within(int n, int least, int most) {
        return n >= least && n <= most;
    }

    /** 0 if the slice could be put in, were its place free; else what the call has to answer. */
    private int refusalToGoIn(int g, int lane) {
        if (!isGuest(g) || !isLane(lane)) {
            return BAD;
        }
        return now.canGoIn(g) ? 0 : NO;
    }

    /** The slices now on the belt, as bits, that are right for their guests once all have fallen. */
    private int rightOnesAtKnob(int k) {
        trial.copyFrom(now);
        trial.knobAt = k;
        int bits = 0;
        for (int g = 0; g < laid.guests; g++) {
            trial.goOnTillFallen(g);
            if (now.where[g] == ON_BELT && trial.isRight(g, g)) {
                bits |= 1 << g;
            }
        }
        return bits;
    }

    private static int momentsThrough(int places, int k) {
        return k < 1 ? 0 : (places + k - 1) / k;
    }

    private static int browning(int kind, int lane, int heat) {
        int felt = lane == HOTTER_LANE ? heat + 2 : heat;
        switch (kind) {
            case RYE: return felt / 2;
            case THICK: return Math.max(0, felt - 3);
            case SWEET: return 2 * felt;
            default: return felt;
        }
    }

    /** At least 1, so that it can divide. */
    private static int greatestDivisor(int a, int b) {
        for (int d = b; d > 1; d--) {
            if (a % d == 0 && b % d == 0) {
                return d;
            }
        }
        return 1;
    }

    private static int draw(int z, int moment) {
        // A square of some 80 million needs a long.
        long x = 7919L * z + 6151L * moment + 1;
        return (int) (x * x % 65521 / 4);
    }

    /** What a text without fault tells. */
    private static final class Plan {
        int places, knobAt, heat, mostHeat, guests;
        final int[] kinds = new int[MOST_GUESTS];
        final int[] least = new int[MOST_GUESTS];
        final int[] most = new int[MOST_GUESTS];

        void begin() {
            places = 18;
            knobAt = 3;
            heat = 8;
            mostHeat = 12;
            guests = 0;
        }

        void copyFrom(Plan other) {
            places = other.places;
            knobAt = other.knobAt;
            heat = other.heat;
            mostHeat = other.mostHeat;
            guests = other.guests;
            System.arraycopy(other.kinds, 0, kinds, 0, MOST_GUESTS);
            System.arraycopy(other.least, 0, least, 0, MOST_GUESTS);
            System.arraycopy(other.most, 0, most, 0, MOST_GUESTS);
        }

        boolean setPlaces(int l) {
            places = l;
            return within(l, LEAST_PLACES, MOST_PLACES);
        }

        boolean setKnob(int k) {
            knobAt = k;
            return isKnob(k);
        }

        boolean setHeat(int h, int m) {
            heat = h;
            mostHeat = m;
            return within(h, 0, MOST_HEAT) && within(m, 0, MOST_HEAT);
        }

        boolean addGuest(int kind, int from, int to) {
            if (guests >= MOST_GUESTS || !within(kind, WHITE, SWEET)) {
                return false;
            }
            kinds[guests] = kind;
            least[guests] = from;
            most[guests] = to;
            guests++;
            return true;
        }
    }

    /** The letters that were written, and how they are read. */
    private static final class Text {
        private static final int MOST_NUMBERS = 3;
        private static final int MOST_FIGURES = 2;

        private final char[] letters = new char[MOST_LETTERS];
        private final int[] numbers = new int[MOST_NUMBERS];
        private int size;
        private int at;

        int length() {
            return size;
        }

        boolean add(char letter) {
            if (size >= MOST_LETTERS) {
                return false;
            }
            letters[size] = letter;
            size++;
            return true;
        }

        void clear() {
            size = 0;
        }

        /** The place of the first item that is not so, or NONE; the plan is whole only with NONE. */
        int readInto(Plan plan) {
            plan.begin();
            at = 0;
            for (int items = 0; items < MOST_LETTERS && at < size; items++) {
                int start = at;
                if (!readItem(plan)) {
                    return start;
                }
            }
            return NONE;
        }

        private boolean readItem(Plan plan) {
            char letter = letters[at];
            int wanted = numbersBehind(letter);
            at++;
            for (int i = 0; i < wanted; i++) {
                if (!readNumber(i) || !readSign(i == wanted - 1 ? ';' : ',')) {
                    return false;
                }
            }
            return tell(plan, letter);
        }

        private static int numbersBehind(char letter) {
            switch (letter) {
                case 'l': return 1;
                case 'k': return 1;
                case 'h': return 2;
                case 'g': return 3;
                default: return 0;
            }
        }

        private boolean readNumber(int i) {
            int value = 0;
            int figures = 0;
            while (figures < MOST_FIGURES && at < size && within(letters[at], '0', '9')) {
                value = value * 10 + (letters[at] - '0');
                at++;
                figures++;
            }
            numbers[i] = value;
            return figures > 0;
        }

        private boolean readSign(char sign) {
            if (at >= size || letters[at] != sign) {
                return false;
            }
            at++;
            return true;
        }

        private boolean tell(Plan plan, char letter) {
            switch (letter) {
                case 'l': return plan.setPlaces(numbers[0]);
                case 'k': return plan.setKnob(numbers[0]);
                case 'h': return plan.setHeat(numbers[0], numbers[1]);
                case 'g': return plan.addGuest(numbers[0], numbers[1], numbers[2]);
                default: return false;
            }
        }
    }

    /** How things stand at one moment; slices bear the numbers of their guests. */
    private static final class Belt {
        private final Plan plan;
        int knobAt, heat, moments;
        final int[] where = new int[MOST_GUESTS];
        final int[] lanes = new int[MOST_GUESTS];
        final int[] places = new int[MOST_GUESTS];
        final int[] brown = new int[MOST_GUESTS];
        final int[] eaters = new int[MOST_GUESTS];

        Belt(Plan plan) {
            this.plan = plan;
        }

        void begin() {
            knobAt = plan.knobAt;
            heat = plan.heat;
            moments = 0;
            for (int s = 0; s < MOST_GUESTS; s++) {
                where[s] = IN_HAND;
                lanes[s] = 0;
                places[s] = 0;
                brown[s] = 0;
                eaters[s] = NONE;
            }
        }

        void copyFrom(Belt other) {
            knobAt = other.knobAt;
            heat = other.heat;
            moments = other.moments;
            System.arraycopy(other.where, 0, where, 0, MOST_GUESTS);
            System.arraycopy(other.lanes, 0, lanes, 0, MOST_GUESTS);
            System.arraycopy(other.places, 0, places, 0, MOST_GUESTS);
            System.arraycopy(other.brown, 0, brown, 0, MOST_GUESTS);
            System.arraycopy(other.eaters, 0, eaters, 0, MOST_GUESTS);
        }

        int howMany(int state) {
            int many = 0;
            for (int s = 0; s < plan.guests; s++) {
                if (where[s] == state) {
                    many++;
                }
            }
            return many;
        }

        int alikeOnTray(int kind) {
            int many = 0;
            for (int s = 0; s < plan.guests; s++) {
                if (where[s] == ON_TRAY && plan.kinds[s] == kind) {
                    many++;
                }
            }
            return many;
        }

        int eatenBy(int g) {
            for (int s = 0; s < plan.guests; s++) {
                if (eaters[s] == g) {
                    return s;
                }
            }
            return NONE;
        }

        boolean isRight(int g, int s) {
            return within(brown[s], plan.least[g], plan.most[g]);
        }

        boolean canGoIn(int g) {
            return where[g] == IN_HAND || where[g] == ON_TRAY;
        }

        boolean isFreeAtStart(int lane) {
            for (int s = 0; s < plan.guests; s++) {
                if (where[s] == ON_BELT && lanes[s] == lane && places[s] == 0) {
                    return false;
                }
            }
            return true;
        }

        void setAtStart(int g, int lane) {
            where[g] = ON_BELT;
            lanes[g] = lane;
            places[g] = 0;
        }

        boolean mayEat(int g, int s) {
            return where[s] == ON_TRAY && plan.kinds[s] == plan.kinds[g] && eatenBy(g) == NONE;
        }

        void eat(int g, int s) {
            where[s] = EATEN;
            eaters[s] = g;
        }

        /** One moment goes by. */
        void goOn() {
            int load = howMany(ON_BELT);
            for (int s = 0; s < plan.guests; s++) {
                if (where[s] == ON_BELT) {
                    carry(s);
                }
            }
            if (load > 0) {
                heat = Math.max(0, heat - load / 2);
            } else if (heat < plan.mostHeat) {
                heat++;
            }
            moments++;
        }

        private void carry(int s) {
            brown[s] += browning(plan.kinds[s], lanes[s], heat);
            places[s] += knobAt;
            if (places[s] >= plan.places) {
                where[s] = ON_TRAY;
            }
        }

        void goOnTillFallen(int g) {
            // The slowest knob is 1, so the longest belt's places bound the moments.
            for (int i = 0; i < MOST_PLACES && where[g] == ON_BELT; i++) {
                goOn();
            }
        }

        boolean isRightAfterRide(int g, int lane) {
            setAtStart(g, lane);
            goOnTillFallen(g);
            return isRight(g, g);
        }

        int contentBits() {
            int bits = 0;
            for (int s = 0; s < plan.guests; s++) {
                int g = eaters[s];
                if (g >= 0 && isRight(g, s)) {
                    bits |= 1 << g;
                }
            }
            return bits;
        }

        void actByDraw(int drawn) {
            if (plan.guests < 1) {
                return;
            }
            int g = drawn % plan.guests;
            int lane = drawn / 16 % 2;
            if (where[g] == IN_HAND && isFreeAtStart(lane)) {
                setAtStart(g, lane);
            }
            eatLowestRight(g);
        }

        private void eatLowestRight(int g) {
            for (int s = 0; s < plan.guests; s++) {
                if (mayEat(g, s) && isRight(g, s)) {
                    eat(g, s);
                    return;
                }
            }
        }
    }

    /** The belts ahead of the latest acts; the oldest gives way to the newest. */
    private static final class Past {
        private final Belt[] belts = new Belt[MOST_UNDONE];
        private int next;
        int many;

        Past(Plan plan) {
            for (int i = 0; i < MOST_UNDONE; i++) {
                belts[i] = new Belt(plan);
            }
        }

        void clear() {
            many = 0;
        }

        void remember(Belt belt) {
            belts[next].copyFrom(belt);
            next = (next + 1) % MOST_UNDONE;
            many = Math.min(MOST_UNDONE, many + 1);
        }

        void bringBack(Belt belt) {
            next = (next + MOST_UNDONE - 1) % MOST_UNDONE;
            belt.copyFrom(belts[next]);
            many--;
        }
    }

    /** What came out of the belt in earlier trials. */
    private static final class Sightings {
        private final int[] kinds = new int[MOST_SEEN];
        private final int[] lanes = new int[MOST_SEEN];
        private final int[] knobs = new int[MOST_SEEN];
        private final int[] browns = new int[MOST_SEEN];
        int many;

        boolean add(int kind, int lane, int k, int v) {
            if (many >= MOST_SEEN) {
                return false;
            }
            kinds[many] = kind;
            lanes[many] = lane;
            knobs[many] = k;
            browns[many] = v;
            many++;
            return true;
        }

        /** One slice alone does not cool the belt, so each moment browns it alike. */
        boolean fit(int heat, int places) {
            for (int i = 0; i < many; i++) {
                int moments = momentsThrough(places, knobs[i]);
                if (moments * browning(kinds[i], lanes[i], heat) != browns[i]) {
                    return false;
                }
            }
            return true;
        }
    }

    /** Who should eat which slice of the tray, so that most are content. */
    private static final class Sharing {
        private final int[] fitting = new int[MOST_GUESTS];
        private final int[] takers = new int[MOST_GUESTS];
        private int tried;
        private int guests;
        final int[] chosen = new int[MOST_GUESTS];
        int total;

        /** Each guest in turn gets the lowest slice by which the others can still reach the total. */
        void settle(Belt belt) {
            findFitting(belt);
            int free = (1 << MOST_GUESTS) - 1;
            total = mostFrom(0, free);
            int missing = total;
            for (int g = 0; g < guests; g++) {
                chosen[g] = lowestThatServes(g, free, missing);
                if (chosen[g] != NONE) {
                    free &= ~(1 << chosen[g]);
                    missing--;
                }
            }
        }

        private void findFitting(Belt belt) {
            guests = belt.plan.guests;
            for (int g = 0; g < guests; g++) {
                fitting[g] = 0;
                for (int s = 0; s < guests; s++) {
                    if (belt.mayEat(g, s) && belt.isRight(g, s)) {
                        fitting[g] |= 1 << s;
                    }
                }
            }
        }

        private int lowestThatServes(int g, int free, int missing) {
            for (int s = 0; s < guests; s++) {
                int bit = 1 << s;
                if ((fitting[g] & free & bit) != 0 && 1 + mostFrom(g + 1, free & ~bit) == missing) {
                    return s;
                }
            }
            return NONE;
        }

        /** How many of the guests from the first one on can have a free slice that is right. */
        private int mostFrom(int first, int free) {
            for (int s = 0; s < MOST_GUESTS; s++) {
                takers[s] = NONE;
            }
            int most = 0;
            for (int g = first; g < guests; g++) {
                tried = ~free;
                if (findsOne(this, g, 0)) {
                    most++;
                }
            }
            return most;
        }

        /** Looks for a slice for g; one who has it already may move to another. */
        private static boolean findsOne(Sharing sharing, int g, int depth) {
            if (depth >= MOST_GUESTS) {
                return false;
            }
            for (int s = 0; s < sharing.guests; s++) {
                int bit = 1 << s;
                if ((sharing.fitting[g] & ~sharing.tried & bit) == 0) {
                    continue;
                }
                sharing.tried |= bit;
                int taker = sharing.takers[s];
                if (taker == NONE || findsOne(sharing, taker, depth + 1)) {
                    sharing.takers[s] = g;
                    return true;
                }
            }
            return false;
        }
    }
}
