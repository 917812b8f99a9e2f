/**
 * An inspector for the grips of a ski lift. What each method does is said in ../shared/DOC.md, a promise each; how the
 * parts hang together is said in README.md.
 */
public final class GripInspector {
    public static final int NONE = -9;

    private static final int MOST_GRIPS = 12;
    private static final int MOST_SIGNS = 60;
    private static final int MOST_STEPS = 99;
    private static final int MOST_PASSES = 9;
    private static final int MOST_COMMANDS = 3;
    private static final int MOST_REMEMBERED = 14;
    private static final int EMPTY_HORIZON = 150;
    private static final int SAVE_SLOTS = 2;
    private static final int GREATEST_WEIGHT = 3;
    private static final int GREATEST_SIGN = 255;
    private static final long GROUP = 100000L;

    private static final int FEWEST_SLOTS = 4;
    private static final int MOST_SLOTS = 20;

    private static final int ABSENT = -1;
    private static final int LINE = 0;
    private static final int GARAGE = 1;
    private static final int WORKSHOP = 2;
    private static final int SCRAPPED = 3;

    private static final int CYCLES = 0;
    private static final int SLIP = 1;
    private static final int RATE = 2;
    private static final int SPACING = 3;
    private static final int TIME = 4;
    private static final int LIMITS = 5;
    private static final int[] GREATEST_LIMITS = {99, 50, 9, 4, 9};

    // What advance() answers: a bit for each thing that happened, in the order of happens().
    private static final int PULLED = 1;
    private static final int WITHDRAWN_DUE = 2;
    private static final int WITHDRAWN_SLIPPING = 4;
    private static final int PUT_ON = 8;

    private final Lift lift;
    private final Lift trial;
    private final LiftText text;
    private final Signs summary;
    private final Memory history;
    private final Memory saves;
    private final boolean[] saved;
    private int remembered;
    private int nextRemembered;

    public GripInspector() {
        lift = new Lift();
        trial = new Lift();
        text = new LiftText();
        summary = new Signs();
        history = new Memory(MOST_REMEMBERED);
        saves = new Memory(SAVE_SLOTS);
        saved = new boolean[SAVE_SLOTS];
        remembered = 0;
        nextRemembered = 0;
    }

    // ---- text

    public int append(int c) throws IllegalArgumentException, IllegalStateException {
        if (c < 0 || c > GREATEST_SIGN) throw new IllegalArgumentException("c is not 0 to 255");
        if (text.signs.isFull()) throw new IllegalStateException("the text has 60 characters");
        text.signs.put((char) c);
        return text.signs.length;
    }

    public int clearText() {
        int before = text.signs.length;
        text.signs.clear();
        return before;
    }

    public int errorPosition() {
        return text.findError();
    }

    public int load() throws IllegalStateException {
        if (text.findError() != NONE) throw new IllegalStateException("the text is not a lift");
        lift.become(text.draft);
        remembered = 0;
        for (int i = 0; i < saved.length; i++) saved[i] = false;
        return lift.grips();
    }

    // ---- what there is

    public int about(int what) throws IllegalArgumentException {
        switch (what) {
            case 0: return lift.n;
            case 1: return lift.grips();
            case 2: return lift.count(LINE);
            case 3: return lift.count(GARAGE);
            case 4: return lift.count(WORKSHOP);
            case 5: return lift.count(SCRAPPED);
            case 6: return lift.station;
            case 7: return lift.clock;
            case 8: return lift.limits[CYCLES];
            case 9: return lift.limits[SLIP];
            case 10: return lift.limits[RATE];
            case 11: return lift.limits[SPACING];
            case 12: return lift.limits[TIME];
            default: throw new IllegalArgumentException("what is not 0 to 12");
        }
    }

    public int grip(int g, int what) throws IndexOutOfBoundsException, IllegalArgumentException {
        if (!lift.has(g)) throw new IndexOutOfBoundsException("no such grip");
        if (!isGripNumber(what)) throw new IllegalArgumentException("what is not 0 to 7");
        return lift.number(g, what);
    }

    public int slot(int i) throws IndexOutOfBoundsException {
        if (!lift.hasSlot(i)) throw new IndexOutOfBoundsException("no such slot");
        return lift.gripAt(i);
    }

    public long random() {
        return lift.randomState;
    }

    public int report(int i) throws IllegalArgumentException {
        if (i < 0) throw new IllegalArgumentException("i is negative");
        lift.describe(summary);
        return summary.at(i);
    }

    // ---- actions

    public int step(int m) throws IllegalArgumentException {
        if (!isStepNumber(m)) throw new IllegalArgumentException("m is not 1 to 99");
        remember();
        lift.advanceBy(m);
        return lift.count(WORKSHOP);
    }

    public int addGrip(int weight) throws IllegalArgumentException, IllegalStateException {
        if (weight < 0 || weight > GREATEST_WEIGHT) throw new IllegalArgumentException("weight is not 0 to 3");
        if (lift.isFull()) throw new IllegalStateException("there are 12 grips");
        remember();
        lift.add(weight);
        return lift.grips() - 1;
    }

    public int putOn(int g, int i) throws IndexOutOfBoundsException, IllegalStateException {
        if (!lift.has(g) || !lift.hasSlot(i)) throw new IndexOutOfBoundsException("no such grip or slot");
        if (!lift.isIn(g, GARAGE) || !lift.isRoomAt(i)) throw new IllegalStateException("it can't be put there");
        remember();
        lift.hang(g, i);
        return lift.count(LINE);
    }

    public int takeOff(int g) throws IndexOutOfBoundsException, IllegalStateException {
        if (!lift.has(g)) throw new IndexOutOfBoundsException("no such grip");
        if (!lift.isIn(g, LINE)) throw new IllegalStateException("the grip is not on the line");
        remember();
        int before = lift.spot[g];
        lift.move(g, GARAGE);
        return before;
    }

    public int scrap(int g) throws IndexOutOfBoundsException, IllegalStateException {
        if (!lift.has(g)) throw new IndexOutOfBoundsException("no such grip");
        if (lift.isIn(g, SCRAPPED)) throw new IllegalStateException("the grip is scrapped");
        remember();
        int before = lift.place[g];
        lift.move(g, SCRAPPED);
        return before;
    }

    public int setLimit(int what, int v) throws IllegalArgumentException {
        if (!isLimit(what, v)) throw new IllegalArgumentException("what or v is out of range");
        remember();
        int before = lift.limits[what];
        lift.limits[what] = v;
        return before;
    }

    public long setRandom(long x) {
        remember();
        long before = lift.randomState;
        lift.randomState = x;
        return before;
    }

    public int undo() throws IllegalStateException {
        if (remembered == 0) throw new IllegalStateException("no state is remembered");
        remembered--;
        nextRemembered = nextRemembered > 0 ? nextRemembered - 1 : MOST_REMEMBERED - 1;
        history.recall(nextRemembered, lift);
        return remembered;
    }

    // ---- the line

    public int gap(int g) throws IndexOutOfBoundsException {
        if (!lift.has(g)) throw new IndexOutOfBoundsException("no such grip");
        return lift.isIn(g, LINE) ? lift.gapBehind(g) : NONE;
    }

    public int room(int what) throws IllegalArgumentException {
        switch (what) {
            case 0: return lift.roomySlots();
            case 1: return lift.smallestGap();
            case 2: return lift.capacity();
            default: throw new IllegalArgumentException("what is not 0 to 2");
        }
    }

    public int groups(int what) throws IllegalArgumentException {
        if (what < 0 || what > 2) throw new IllegalArgumentException("what is not 0 to 2");
        int number = 0;
        int greatest = 0;
        int first = NONE;
        for (int g = 0; g < MOST_GRIPS; g++) {
            if (!lift.opensGroup(g)) continue;
            number++;
            int size = lift.groupSize(g);
            if (size > greatest) {
                greatest = size;
                first = g;
            }
        }
        return what == 0 ? number : what == 1 ? greatest : first;
    }

    public int dueAfter(int g) throws IndexOutOfBoundsException {
        if (!lift.has(g)) throw new IndexOutOfBoundsException("no such grip");
        return lift.isIn(g, LINE) ? lift.stepsUntilDue(g) : NONE;
    }

    public int chance(int passes, boolean upper) throws IllegalArgumentException {
        if (passes < 1 || passes > MOST_PASSES) throw new IllegalArgumentException("passes is not 1 to 9");
        int rate = lift.limits[RATE];
        // rate and rate - 1 have no common divisor, so their powers are in lowest terms; with rate 1 this is 0 / 1.
        int base = upper ? rate - 1 : rate;
        int power = 1;
        for (int i = 0; i < passes; i++) power *= base;
        return power;
    }

    // ---- forecasts

    public int ahead(int g, int m, int what) throws IndexOutOfBoundsException, IllegalArgumentException {
        if (!lift.has(g)) throw new IndexOutOfBoundsException("no such grip");
        if (m < 0 || m > MOST_STEPS) throw new IllegalArgumentException("m is not 0 to 99");
        if (!isGripNumber(what)) throw new IllegalArgumentException("what is not 0 to 7");
        trial.become(lift);
        trial.advanceBy(m);
        return trial.number(g, what);
    }

    public int happens(int m, int what) throws IllegalArgumentException {
        if (!isStepNumber(m) || what < 0 || what > 3) throw new IllegalArgumentException("m or what is out of range");
        trial.become(lift);
        int times = 0;
        for (int i = 0; i < m; i++) times += trial.advance() >> what & 1;
        return times;
    }

    public int bestLimit(int m) throws IllegalArgumentException {
        if (!isStepNumber(m)) throw new IllegalArgumentException("m is not 1 to 99");
        for (int limit = GREATEST_LIMITS[CYCLES]; limit >= 1; limit--) {
            if (isSlipFree(limit, m)) return limit;
        }
        return NONE;
    }

    public int emptyAfter() {
        trial.become(lift);
        for (int i = 0; i <= EMPTY_HORIZON; i++) {
            if (trial.count(LINE) == 0) return i;
            trial.advance();
        }
        return NONE;
    }

    // ---- scripts, simulations

    public int runScript(int n, long script) throws IllegalArgumentException {
        if (n < 1 || n > MOST_COMMANDS) throw new IllegalArgumentException("n is not 1 to 3");
        if (script < 0 || script >= groupPower(n)) throw new IllegalArgumentException("script is out of range");
        trial.become(lift);
        for (int i = 0; i < n; i++) {
            if (!obeys(groupAt(script, n - 1 - i))) return i;
        }
        return NONE;
    }

    public int simulate(long seed, int m) throws IllegalArgumentException {
        if (!isStepNumber(m)) throw new IllegalArgumentException("m is not 1 to 99");
        trial.become(lift);
        trial.randomState = seed;
        trial.advanceBy(m);
        return 100 * trial.allPulls() + trial.count(LINE);
    }

    // ---- save slots

    public int save(int slot) throws IndexOutOfBoundsException {
        if (slot < 0 || slot >= SAVE_SLOTS) throw new IndexOutOfBoundsException("no such save slot");
        saves.keep(slot, lift);
        saved[slot] = true;
        return lift.clock;
    }

    public int restore(int slot) throws IndexOutOfBoundsException, IllegalStateException {
        if (slot < 0 || slot >= SAVE_SLOTS) throw new IndexOutOfBoundsException("no such save slot");
        if (!saved[slot]) throw new IllegalStateException("nothing has been saved there");
        saves.recall(slot, lift);
        remembered = 0;
        return lift.clock;
    }

    // ---- what the methods share

    private void remember() {
        history.keep(nextRemembered, lift);
        nextRemembered = nextRemembered + 1 < MOST_REMEMBERED ? nextRemembered + 1 : 0;
        if (remembered < MOST_REMEMBERED) remembered++;
    }

    private boolean isSlipFree(int limit, int m) {
        trial.become(lift);
        trial.limits[CYCLES] = limit;
        for (int i = 0; i < m; i++) {
            if ((trial.advance() & WITHDRAWN_SLIPPING) != 0) return false;
        }
        return true;
    }

    private static boolean isStepNumber(int m) {
        return m >= 1 && m <= MOST_STEPS;
    }

    private static boolean isGripNumber(int what) {
        return what >= 0 && what <= 7;
    }

    private static boolean isLimit(int what, int v) {
        return what >= 0 && what < LIMITS && v >= 1 && v <= GREATEST_LIMITS[what];
    }

    private static long groupPower(int groups) {
        long power = 1;
        for (int i = 0; i < groups; i++) power *= GROUP;
        return power;
    }

    /** Group 0 is the lowest one. */
    private static int groupAt(long script, int group) {
        long rest = script;
        for (int i = 0; i < group; i++) rest /= GROUP;
        return (int) (rest % GROUP);
    }

    /** Does a command of a script on the trial lift; false if it fails. */
    private boolean obeys(int command) {
        int middle = command / 100 % 100;
        int last = command % 100;
        switch (command / 10000) {
            case 1:
                if (middle != 0 || !isStepNumber(last)) return false;
                trial.advanceBy(last);
                return true;
            case 2: return triesPutting(middle, last);
            case 3: return last == 0 && triesTaking(middle);
            case 4: return middle % 10 == 0 && triesLimit(middle / 10, last);
            case 5: return trial.has(middle) && trial.cycles[middle] == last;
            case 6: return trial.has(middle) && trial.isIn(middle, last);
            case 7: return middle == 0 && trial.count(LINE) == last;
            case 8: return trial.has(last) && trial.isIn(last, LINE) && trial.spot[last] == middle;
            default: return false;
        }
    }

    private boolean triesPutting(int g, int i) {
        if (!trial.has(g) || !trial.hasSlot(i) || !trial.isIn(g, GARAGE) || !trial.isRoomAt(i)) return false;
        trial.hang(g, i);
        return true;
    }

    private boolean triesTaking(int g) {
        if (!trial.has(g) || !trial.isIn(g, LINE)) return false;
        trial.move(g, GARAGE);
        return true;
    }

    private boolean triesLimit(int what, int v) {
        if (!isLimit(what, v)) return false;
        trial.limits[what] = v;
        return true;
    }

    /**
     * The state, and n with it: load forgets every copy, so that no copy holds another n. Whoever gives a grip's number
     * to a method here has asked has() before.
     */
    private static final class Lift {
        final int[] weight = new int[MOST_GRIPS];
        final int[] cycles = new int[MOST_GRIPS];
        final int[] wear = new int[MOST_GRIPS];
        final int[] pulls = new int[MOST_GRIPS];
        final int[] lastSlip = new int[MOST_GRIPS];
        final int[] place = new int[MOST_GRIPS];
        final int[] spot = new int[MOST_GRIPS];
        final int[] stepsLeft = new int[MOST_GRIPS];
        final int[] limits = new int[LIMITS];
        int n;
        int station;
        int clock;
        long randomState;

        Lift() {
            clear();
            n = 8;
            limits[CYCLES] = 10;
            limits[SLIP] = 20;
            limits[RATE] = 4;
            limits[SPACING] = 2;
            limits[TIME] = 3;
        }

        void clear() {
            for (int g = 0; g < MOST_GRIPS; g++) place[g] = ABSENT;
            station = 0;
            clock = 0;
            randomState = 0;
        }

        void become(Lift other) {
            System.arraycopy(other.weight, 0, weight, 0, MOST_GRIPS);
            System.arraycopy(other.cycles, 0, cycles, 0, MOST_GRIPS);
            System.arraycopy(other.wear, 0, wear, 0, MOST_GRIPS);
            System.arraycopy(other.pulls, 0, pulls, 0, MOST_GRIPS);
            System.arraycopy(other.lastSlip, 0, lastSlip, 0, MOST_GRIPS);
            System.arraycopy(other.place, 0, place, 0, MOST_GRIPS);
            System.arraycopy(other.spot, 0, spot, 0, MOST_GRIPS);
            System.arraycopy(other.stepsLeft, 0, stepsLeft, 0, MOST_GRIPS);
            System.arraycopy(other.limits, 0, limits, 0, LIMITS);
            n = other.n;
            station = other.station;
            clock = other.clock;
            randomState = other.randomState;
        }

        boolean has(int g) {
            return g >= 0 && g < MOST_GRIPS && place[g] != ABSENT;
        }

        boolean hasSlot(int i) {
            return i >= 0 && i < n;
        }

        boolean isIn(int g, int where) {
            return place[g] == where;
        }

        int count(int where) {
            int number = 0;
            for (int g = 0; g < MOST_GRIPS; g++) {
                if (place[g] == where) number++;
            }
            return number;
        }

        int grips() {
            return MOST_GRIPS - count(ABSENT);
        }

        boolean isFull() {
            return count(ABSENT) == 0;
        }

        int gripAt(int i) {
            for (int g = 0; g < MOST_GRIPS; g++) {
                if (place[g] == LINE && spot[g] == i) return g;
            }
            return NONE;
        }

        int number(int g, int what) {
            switch (what) {
                case 0: return weight[g];
                case 1: return cycles[g];
                case 2: return wear[g];
                case 3: return pulls[g];
                case 4: return lastSlip[g];
                case 5: return place[g];
                case 6: return place[g] == LINE ? spot[g] : NONE;
                default: return place[g] == WORKSHOP ? stepsLeft[g] : NONE;
            }
        }

        int allPulls() {
            int sum = 0;
            for (int g = 0; g < MOST_GRIPS; g++) {
                if (place[g] != ABSENT) sum += pulls[g];
            }
            return sum;
        }

        /** Adds a new grip to the garage; nothing if there are 12. Numbers have no holes, for no grip ever vanishes. */
        void add(int itsWeight) {
            int g = grips();
            if (g >= MOST_GRIPS) return;
            weight[g] = itsWeight;
            cycles[g] = 0;
            wear[g] = 0;
            pulls[g] = 0;
            lastSlip[g] = NONE;
            place[g] = GARAGE;
        }

        void hang(int g, int i) {
            place[g] = LINE;
            spot[g] = i;
        }

        void move(int g, int where) {
            place[g] = where;
        }

        void advanceBy(int m) {
            for (int i = 0; i < m; i++) advance();
        }

        /** Makes a step and answers what happened. */
        int advance() {
            station = station + 1 < n ? station + 1 : 0;
            randomState = randomState * 6364136223846793005L + 1442695040888963407L;
            int passing = gripAt(station);
            int events = passing < 0 ? 0 : pass(passing, (int) (randomState >>> 33));
            repairAllBut(passing);
            events |= fillStation();
            clock++;
            return events;
        }

        int pass(int g, int r) {
            cycles[g]++;
            wear[g] += 1 + weight[g];
            int rate = limits[RATE];
            boolean due = cycles[g] >= limits[CYCLES];
            boolean picked = rate > 0 && r % rate == 0;
            if (!due && !picked) return 0;
            pulls[g]++;
            lastSlip[g] = wear[g] / 4 + r / 16 % 5;
            if (!due && lastSlip[g] <= limits[SLIP]) return PULLED;
            place[g] = WORKSHOP;
            stepsLeft[g] = limits[TIME];
            return PULLED | (due ? WITHDRAWN_DUE : WITHDRAWN_SLIPPING);
        }

        /** The grip that has passed the station may have come to the workshop in this very step; it waits. */
        void repairAllBut(int passing) {
            for (int g = 0; g < MOST_GRIPS; g++) {
                if (place[g] != WORKSHOP || g == passing) continue;
                stepsLeft[g]--;
                if (stepsLeft[g] > 0) continue;
                cycles[g] = 0;
                wear[g] = 0;
                place[g] = GARAGE;
            }
        }

        int fillStation() {
            int chosen = NONE;
            for (int g = MOST_GRIPS - 1; g >= 0; g--) {
                if (place[g] != GARAGE) continue;
                if (chosen < 0 || cycles[g] <= cycles[chosen]) chosen = g;
            }
            if (chosen < 0 || !isRoomAt(station)) return 0;
            hang(chosen, station);
            return PUT_ON;
        }

        /** The spacing is at least 1, so a slot with a grip has no room. */
        boolean isRoomAt(int i) {
            for (int g = 0; g < MOST_GRIPS; g++) {
                if (place[g] == LINE && distance(spot[g], i) < limits[SPACING]) return false;
            }
            return true;
        }

        int distance(int one, int other) {
            int apart = one > other ? one - other : other - one;
            return apart < n - apart ? apart : n - apart;
        }

        int roomySlots() {
            int number = 0;
            for (int i = 0; i < n; i++) {
                if (isRoomAt(i)) number++;
            }
            return number;
        }

        /** How many slots one goes on, at least one and at most a whole round. */
        int slotsOn(int from, int to) {
            return to > from ? to - from : to - from + n;
        }

        /** The grip itself counts too: it comes after a whole round. */
        int gapBehind(int g) {
            int gap = n;
            for (int next = 0; next < MOST_GRIPS; next++) {
                if (place[next] == LINE) gap = Math.min(gap, slotsOn(spot[g], spot[next]));
            }
            return gap;
        }

        int smallestGap() {
            int smallest = NONE;
            for (int g = 0; g < MOST_GRIPS; g++) {
                if (place[g] != LINE) continue;
                int gap = gapBehind(g);
                if (smallest == NONE || gap < smallest) smallest = gap;
            }
            return smallest;
        }

        int capacity() {
            int spacing = limits[SPACING];
            return spacing > 0 ? n / spacing : 0;
        }

        int stepsUntilDue(int g) {
            int passes = Math.max(1, limits[CYCLES] - cycles[g]);
            return slotsOn(station, spot[g]) + (passes - 1) * n;
        }

        boolean isGrouped(int g) {
            return place[g] != ABSENT && place[g] != SCRAPPED;
        }

        boolean areTogether(int g, int other) {
            boolean alike = weight[g] == weight[other] && cycles[g] / 10 == cycles[other] / 10;
            return alike && isGrouped(g) && isGrouped(other);
        }

        boolean opensGroup(int g) {
            for (int other = 0; other < g; other++) {
                if (areTogether(g, other)) return false;
            }
            return isGrouped(g);
        }

        int groupSize(int g) {
            int size = 0;
            for (int other = 0; other < MOST_GRIPS; other++) {
                if (areTogether(g, other)) size++;
            }
            return size;
        }

        void describe(Signs signs) {
            signs.clear();
            for (int g = 0; g < MOST_GRIPS; g++) {
                if (place[g] != ABSENT) describeGrip(g, signs);
            }
        }

        void describeGrip(int g, Signs signs) {
            if (signs.length > 0) signs.put(' ');
            signs.put((char) ('a' + g));
            switch (place[g]) {
                case LINE:
                    signs.put('@');
                    signs.putNumber(spot[g]);
                    break;
                case GARAGE:
                    signs.put('g');
                    break;
                case WORKSHOP:
                    signs.put('w');
                    signs.putNumber(stepsLeft[g]);
                    break;
                default:
                    signs.put('x');
            }
        }
    }

    /** At most 60 characters: the text, or the report, which has at most 59. */
    private static final class Signs {
        private final char[] row = new char[MOST_SIGNS];
        int length = 0;

        boolean isFull() {
            return length >= MOST_SIGNS;
        }

        void put(char c) {
            if (length < 0 || length >= MOST_SIGNS) return;
            row[length] = c;
            length++;
        }

        void putNumber(int number) {
            if (number > 9) put((char) ('0' + number / 10));
            put((char) ('0' + number % 10));
        }

        int at(int i) {
            if (i < 0 || i >= length || i >= MOST_SIGNS) return NONE;
            return row[i];
        }

        void clear() {
            length = 0;
        }
    }

    /** Lifts that are kept, in rows that are made once. */
    private static final class Memory {
        private final Lift[] rows;

        Memory(int size) {
            rows = new Lift[size > 0 ? size : 0];
            for (int i = 0; i < rows.length; i++) rows[i] = new Lift();
        }

        void keep(int i, Lift lift) {
            Lift row = rowAt(i);
            if (row != null) row.become(lift);
        }

        void recall(int i, Lift lift) {
            Lift row = rowAt(i);
            if (row != null) lift.become(row);
        }

        private Lift rowAt(int i) {
            return i >= 0 && i < rows.length ? rows[i] : null;
        }
    }

    /** The text, read as a lift into the draft. The first sign that does not fit is where the reading stops. */
    private static final class LiftText {
        private static final int NO_NUMBER = -1;

        final Signs signs = new Signs();
        final Lift draft = new Lift();
        private int at;

        int findError() {
            at = 0;
            draft.clear();
            boolean fits = readHead();
            for (int items = 0; fits && at < signs.length && items <= MOST_GRIPS; items++) fits = readItem();
            return fits ? NONE : at;
        }

        private boolean readHead() {
            if (signs.at(at) != 'L') return false;
            at++;
            int slots = readPair(FEWEST_SLOTS, MOST_SLOTS, false);
            if (slots == NO_NUMBER) return false;
            draft.n = slots;
            for (int what = 0; what < LIMITS; what++) {
                int greatest = GREATEST_LIMITS[what];
                int limit = greatest > 9 ? readPair(1, greatest, false) : readDigit(1, greatest);
                if (limit == NO_NUMBER) return false;
                draft.limits[what] = limit;
            }
            return true;
        }

        private boolean readItem() {
            int letter = signs.at(at);
            boolean onLine = letter == 'g';
            int g = draft.grips();
            if (g >= MOST_GRIPS || !onLine && letter != 'h') return false;
            if (onLine && draft.count(LINE) >= draft.n) return false;
            at++;
            int weight = readDigit(0, GREATEST_WEIGHT);
            if (weight == NO_NUMBER) return false;
            int slot = onLine ? readPair(0, draft.n - 1, true) : 0;
            if (slot == NO_NUMBER) return false;
            draft.add(weight);
            if (onLine) draft.hang(g, slot);
            return true;
        }

        private int readDigit(int low, int high) {
            int digit = signs.at(at) - '0';
            if (digit < low || digit > high) return NO_NUMBER;
            at++;
            return digit;
        }

        private int readPair(int low, int high, boolean free) {
            int tens = signs.at(at) - '0';
            if (!isBegin(tens, low, high, free)) return NO_NUMBER;
            at++;
            int ones = signs.at(at) - '0';
            if (ones < 0 || ones > 9 || !isAllowed(tens * 10 + ones, low, high, free)) return NO_NUMBER;
            at++;
            return tens * 10 + ones;
        }

        /** A first digit is wrong already if no allowed number begins with it, also if all those slots have grips. */
        private boolean isBegin(int tens, int low, int high, boolean free) {
            for (int ones = 0; ones <= 9; ones++) {
                if (isAllowed(tens * 10 + ones, low, high, free)) return true;
            }
            return false;
        }

        private boolean isAllowed(int number, int low, int high, boolean free) {
            return number >= low && number <= high && (!free || draft.gripAt(number) == NONE);
        }
    }
}
