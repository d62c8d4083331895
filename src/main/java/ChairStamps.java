/**
 * A standards office for chairs: how much they wobble and lean on uneven floors, tests with
 * reasons, stamps that become void, legs that wear, and fees that add up.
 */
public final class ChairStamps {
    public static final int NONE = -1;

    private static final int MOST_CHAIRS = 10;
    private static final int MOST_FLOORS = 4;
    private static final int GUILDS = 4;
    private static final int LEGS = 4;
    private static final int BOUNDS = 4;
    private static final int SETTINGS = 2;
    private static final int LEAST_LENGTH = 100;
    private static final int MOST_LENGTH = 900;
    private static final int MOST_SPOT = 50;
    private static final int MOST_SAWN = 800;
    private static final int MOST_SHIMMED = 99;
    private static final int MOST_WEIGHT = 200;
    private static final int MOST_FEE = 50;
    private static final int MOST_HARDNESS = 200;
    private static final int MOST_TEXT = 120;
    private static final int MOST_CODE = 255;
    private static final int MOST_REMEMBERED = 14;
    private static final int MOST_SITTERS_TRIED = 100;
    private static final int MOST_COMMANDS = 3;
    private static final int MOST_TURNS = 60;
    private static final long GROUP = 1000000L;

    // The bounds of a guild.
    private static final int LEAST_SEAT = 0;
    private static final int MOST_SEAT = 1;
    private static final int MOST_WOBBLE = 2;
    private static final int MOST_LEAN = 3;

    // The settings.
    private static final int FEE = 0;
    private static final int HARDNESS = 1;

    // The numbers of about() that are counted up; those below TESTS are looked up.
    private static final int TESTS = 3;
    private static final int STAMPS = 4;
    private static final int VOIDS = 5;
    private static final int FEES = 6;
    private static final int SITTERS = 7;
    private static final int SAWN = 8;
    private static final int SHIMMED = 9;
    private static final int WORN = 10;
    private static final int TOTALS = 11;

    // What an action of an Office answers when it is refused; every other answer is 0 or more.
    private static final int NO_SUCH = -2;
    private static final int BAD_ARGUMENT = -3;
    private static final int BAD_STATE = -4;

    private final Office office = new Office();
    private final Office copy = new Office();
    private final Memory memory = new Memory();
    private final Slot slotZero = new Slot();
    private final Slot slotOne = new Slot();
    private final OfficeText text = new OfficeText();

    public ChairStamps() {
    }

    // ---- text

    public int append(int c) throws IllegalArgumentException, IllegalStateException {
        if (!within(c, 0, MOST_CODE)) {
            throw new IllegalArgumentException("no character code");
        }
        if (text.isFull()) {
            throw new IllegalStateException("the text is full");
        }
        return text.add(c);
    }

    public int clearText() {
        return text.empty();
    }

    public int errorPosition() {
        return text.firstError();
    }

    public int load() throws IllegalStateException {
        if (text.firstError() != NONE) {
            throw new IllegalStateException("the text is not an office");
        }
        office.makeNew();
        memory.forget();
        slotZero.used = false;
        slotOne.used = false;
        int leftOut = 0;
        text.goToCommands();
        for (int i = 0; i < MOST_TEXT && text.readCommand(); i++) {
            if (doCommand() < 0) {
                leftOut++;
            }
        }
        return leftOut;
    }

    // ---- what there is

    public int about(int what) throws IllegalArgumentException {
        if (!within(what, 0, TOTALS - 1)) {
            throw new IllegalArgumentException("no such number");
        }
        switch (what) {
            case 0: return office.chairs;
            case 1: return office.floors;
            case 2: return office.stampedChairs();
            default: return at(office.totals, what);
        }
    }

    public int chairOf(int c, int what) throws IndexOutOfBoundsException, IllegalArgumentException {
        needChair(c);
        switch (what) {
            case 0: return at(office.guilds, c);
            case 1: return at(office.floorsUnder, c);
            case 2: return at(office.quarters, c);
            case 3: return office.leanNow(c);
            case 4: return office.seatHeight(c);
            case 5: return office.idleLeg(c);
            case 6: return at(office.stamps, c);
            case 7: return office.reason(c);
            case 8: return at(office.sitters, c);
            default: throw new IllegalArgumentException("no such number of a chair");
        }
    }

    public int wobble(int c, int way) throws IndexOutOfBoundsException, IllegalArgumentException {
        needChair(c);
        if (!within(way, 0, 1)) {
            throw new IllegalArgumentException("no such way");
        }
        return way == 0 ? office.wobbleNow(c) : office.greatestGap(c);
    }

    public int legOf(int c, int k, int what) throws IndexOutOfBoundsException, IllegalArgumentException {
        needChair(c);
        needOneOfFour(k);
        switch (what) {
            case 0: return office.length(c, k);
            case 1: return office.reachNow(c, k);
            case 2: return (k + at(office.quarters, c)) % LEGS;
            default: throw new IllegalArgumentException("no such number of a leg");
        }
    }

    public int spot(int f, int k) throws IndexOutOfBoundsException {
        needFloor(f);
        needOneOfFour(k);
        return office.height(f, k);
    }

    public int boundOf(int g, int k) throws IndexOutOfBoundsException {
        needOneOfFour(g);
        needOneOfFour(k);
        return office.limit(g, k);
    }

    public int setting(int what) throws IllegalArgumentException {
        if (!within(what, 0, SETTINGS - 1)) {
            throw new IllegalArgumentException("no such setting");
        }
        return at(office.values, what);
    }

    // ---- actions

    public int chair(int g, int length) throws IndexOutOfBoundsException, IllegalArgumentException, IllegalStateException {
        memory.draft(office);
        return acted(office.addChair(g, length));
    }

    public int floor(int a, int b, int c, int d) throws IllegalArgumentException, IllegalStateException {
        memory.draft(office);
        return acted(office.layFloor(a, b, c, d));
    }

    public int level(int f, int k, int v) throws IndexOutOfBoundsException, IllegalArgumentException {
        memory.draft(office);
        return acted(office.changeSpot(f, k, v));
    }

    public int bring(int c, int f, int q) throws IndexOutOfBoundsException, IllegalArgumentException {
        memory.draft(office);
        return acted(office.moveChair(c, f, q));
    }

    public int saw(int c, int k, int n) throws IndexOutOfBoundsException, IllegalArgumentException, IllegalStateException {
        memory.draft(office);
        return acted(office.sawLeg(c, k, n));
    }

    public int shim(int c, int k, int n) throws IndexOutOfBoundsException, IllegalArgumentException, IllegalStateException {
        memory.draft(office);
        return acted(office.shimLeg(c, k, n));
    }

    public int test(int c) throws IndexOutOfBoundsException {
        memory.draft(office);
        return acted(office.testChair(c));
    }

    public int sit(int c, int weight) throws IndexOutOfBoundsException, IllegalArgumentException {
        memory.draft(office);
        return acted(office.sitDown(c, weight));
    }

    public int bound(int g, int k, int v) throws IndexOutOfBoundsException, IllegalArgumentException {
        memory.draft(office);
        return acted(office.changeBound(g, k, v));
    }

    public int set(int what, int v) throws IllegalArgumentException {
        memory.draft(office);
        return acted(office.changeSetting(what, v));
    }

    public int undo() throws IllegalStateException {
        if (memory.count == 0) {
            throw new IllegalStateException("no state is remembered");
        }
        memory.takeBack(office);
        return memory.count;
    }

    // ---- what would be

    public int bestTurn(int c, int f, int what) throws IndexOutOfBoundsException, IllegalArgumentException {
        needChair(c);
        needFloor(f);
        if (!within(what, 0, 1)) {
            throw new IllegalArgumentException("no such number of a turn");
        }
        int quarters = office.bestQuarters(c, f);
        return what == 0 ? quarters : office.wobbleOn(c, f, quarters);
    }

    public int bestSaw(int c) throws IndexOutOfBoundsException {
        needChair(c);
        copy.copyFrom(office);
        return copy.bestSawnLeg(c);
    }

    public int failsIn(int c, int weight) throws IndexOutOfBoundsException, IllegalArgumentException {
        needChair(c);
        if (!within(weight, 1, MOST_WEIGHT)) {
            throw new IllegalArgumentException("no such weight");
        }
        copy.copyFrom(office);
        for (int sitters = 0; sitters <= MOST_SITTERS_TRIED; sitters++) {
            if (copy.reason(c) != 0) {
                return sitters;
            }
            copy.sitDown(c, weight);
        }
        return NONE;
    }

    public int bestFloor(int c) throws IndexOutOfBoundsException {
        needChair(c);
        return office.bestFloorFor(c);
    }

    public int sound() {
        int chairs = 0;
        for (int c = 0; c < office.chairs; c++) {
            if (office.reason(c) == 0) {
                chairs |= 1 << c;
            }
        }
        return chairs;
    }

    // ---- scripts, simulations

    public int runScript(int n, long script) throws IllegalArgumentException {
        if (!within(n, 1, MOST_COMMANDS) || script < 0 || withoutGroups(script, n) != 0) {
            throw new IllegalArgumentException("no such script");
        }
        copy.copyFrom(office);
        for (int i = 0; i < n; i++) {
            int group = (int) (withoutGroups(script, n - 1 - i) % GROUP);
            if (!groupSucceeds(copy, group)) {
                return i;
            }
        }
        return NONE;
    }

    public int simulate(long seed, int m) throws IllegalArgumentException {
        if (!within(m, 1, MOST_TURNS)) {
            throw new IllegalArgumentException("no such number of turns");
        }
        copy.copyFrom(office);
        long x = seed;
        for (int i = 0; i < m; i++) {
            x = x * 6364136223846793005L + 1442695040888963407L;
            takeTurn(copy, (int) (x >>> 33));
        }
        int given = at(copy.totals, STAMPS) - at(office.totals, STAMPS);
        int voided = at(copy.totals, VOIDS) - at(office.totals, VOIDS);
        return 10000 * given + 100 * copy.stampedChairs() + voided;
    }

    // ---- save slots

    public int save(int slot) throws IndexOutOfBoundsException {
        needSlot(slot);
        Slot chosen = slot == 0 ? slotZero : slotOne;
        chosen.content.copyFrom(office);
        chosen.used = true;
        return office.stampedChairs();
    }

    public int restore(int slot) throws IndexOutOfBoundsException, IllegalStateException {
        needSlot(slot);
        Slot chosen = slot == 0 ? slotZero : slotOne;
        if (!chosen.used) {
            throw new IllegalStateException("nothing is saved in the slot");
        }
        office.copyFrom(chosen.content);
        memory.forget();
        return office.stampedChairs();
    }

    // ---- helpers of the face

    private void needChair(int c) {
        if (!office.hasChair(c)) {
            throw new IndexOutOfBoundsException("no such chair");
        }
    }

    private void needFloor(int f) {
        if (!office.hasFloor(f)) {
            throw new IndexOutOfBoundsException("no such floor");
        }
    }

    /** Legs, spots, guilds and bounds are four each. */
    private static void needOneOfFour(int index) {
        if (!within(index, 0, 3)) {
            throw new IndexOutOfBoundsException("no such leg, spot, guild or bound");
        }
    }

    private static void needSlot(int slot) {
        if (!within(slot, 0, 1)) {
            throw new IndexOutOfBoundsException("no such save slot");
        }
    }

    /** Throws what a refused action asks for; the state before any other one is remembered. */
    private int acted(int answer) {
        if (answer == NO_SUCH) {
            throw new IndexOutOfBoundsException("no such thing");
        }
        if (answer == BAD_ARGUMENT) {
            throw new IllegalArgumentException("an argument is out of its range");
        }
        if (answer == BAD_STATE) {
            throw new IllegalStateException("the office does not allow it now");
        }
        memory.keepDraft();
        return answer;
    }

    /** Does the command that the text has read; the answer is that of the action. */
    private int doCommand() {
        int a = at(text.numbers, 0);
        int b = at(text.numbers, 1);
        int c = at(text.numbers, 2);
        int d = at(text.numbers, 3);
        switch (text.letter) {
            case 'c': return office.addChair(a, b);
            case 's': return office.sawLeg(a, b, c);
            case 'h': return office.shimLeg(a, b, c);
            case 'f': return office.layFloor(a, b, c, d);
            case 'b': return office.moveChair(a, b, c);
            case 't': return office.testChair(a);
            case 'w': return office.sitDown(a, b);
            case 'g': return office.changeBound(a, b, c);
            default: return BAD_ARGUMENT;
        }
    }

    /** The number that is left of a script when so many of its last groups are taken away. */
    private static long withoutGroups(long script, int groups) {
        long rest = script;
        for (int i = 0; i < groups; i++) {
            rest = rest / GROUP;
        }
        return rest;
    }

    private static boolean groupSucceeds(Office on, int group) {
        int first = group / 10000 % 10;
        int second = group / 1000 % 10;
        int number = group % 1000;
        boolean noSecond = second == 0;
        switch (group / 100000) {
            case 1: return on.sawLeg(first, second, number) >= 0;
            case 2: return number <= 99 && on.shimLeg(first, second, number) >= 0;
            case 3: return number % 100 == 0 && on.moveChair(first, second, number / 100) >= 0;
            case 4: return noSecond && number <= 9 && on.testChair(first) == number;
            case 5: return noSecond && on.sitDown(first, number) >= 0;
            case 6: return on.changeBound(first, second, number) >= 0;
            case 7: return noSecond && on.hasChair(first) && on.wobbleNow(first) <= number;
            case 8: return noSecond && on.hasChair(first) && at(on.stamps, first) == number;
            case 9: return noSecond && on.hasChair(first) && on.leanNow(first) <= number;
            default: return false;
        }
    }

    /** What is refused changes nothing, so a turn that would throw is left out. */
    private static void takeTurn(Office on, int r) {
        int q = r / 16;
        switch (r % 16) {
            case 0:
            case 1:
                on.addChair(q % 4, 400 + q / 4 % 101);
                break;
            case 2:
                on.layFloor(q % 9, q / 9 % 9, q / 81 % 9, q / 729 % 9);
                break;
            case 3:
                on.changeSpot(q % 4, q / 4 % 4, q / 16 % 12);
                break;
            case 4:
            case 5:
                on.sawLeg(q % 10, q / 16 % 4, 1 + q / 64 % 9);
                break;
            case 6:
                on.shimLeg(q % 10, q / 16 % 4, 1 + q / 64 % 9);
                break;
            case 7:
                on.moveChair(q % 10, q / 16 % 4, q / 64 % 4);
                break;
            case 8:
            case 9:
            case 10:
                on.testChair(q % 10);
                break;
            case 11:
                on.changeBound(q % 4, 2 + q / 4 % 2, q / 8 % 30);
                break;
            default:
                on.sitDown(q % 10, 1 + q / 16 % 200);
                break;
        }
    }

    // ---- helpers of all classes

    private static boolean within(int value, int least, int most) {
        return value >= least && value <= most;
    }

    /** An element of a row; 0 beside the row, so that no index can go wrong. */
    private static int at(int[] row, int index) {
        return index >= 0 && index < row.length ? row[index] : 0;
    }

    private static void put(int[] row, int index, int value) {
        if (index >= 0 && index < row.length) {
            row[index] = value;
        }
    }

    private static void fill(int[] row, int value) {
        for (int i = 0; i < row.length; i++) {
            row[i] = value;
        }
    }

    private static void copyRow(int[] from, int[] to) {
        for (int i = 0; i < from.length && i < to.length; i++) {
            to[i] = from[i];
        }
    }

    /** The state: everything but the text and the save slots. */
    private static final class Office {
        private int chairs;
        private int floors;
        private final int[] guilds = new int[MOST_CHAIRS];
        private final int[] floorsUnder = new int[MOST_CHAIRS];
        private final int[] quarters = new int[MOST_CHAIRS];
        private final int[] stamps = new int[MOST_CHAIRS];
        private final int[] sitters = new int[MOST_CHAIRS];
        private final int[] lengths = new int[MOST_CHAIRS * LEGS];
        private final int[] heights = new int[MOST_FLOORS * LEGS];
        private final int[] limits = new int[GUILDS * BOUNDS];
        private final int[] values = new int[SETTINGS];
        private final int[] totals = new int[TOTALS];

        Office() {
            makeNew();
        }

        /** The rows of chairs are left as they are: addChair writes all of a chair. */
        void makeNew() {
            chairs = 0;
            floors = 1;
            fill(heights, 0);
            fill(totals, 0);
            for (int g = 0; g < GUILDS; g++) {
                put(limits, g * BOUNDS + LEAST_SEAT, 400);
                put(limits, g * BOUNDS + MOST_SEAT, 500);
                put(limits, g * BOUNDS + MOST_WOBBLE, 4);
                put(limits, g * BOUNDS + MOST_LEAN, 12);
            }
            put(values, FEE, 5);
            put(values, HARDNESS, 60);
        }

        void copyFrom(Office other) {
            chairs = other.chairs;
            floors = other.floors;
            copyRow(other.guilds, guilds);
            copyRow(other.floorsUnder, floorsUnder);
            copyRow(other.quarters, quarters);
            copyRow(other.stamps, stamps);
            copyRow(other.sitters, sitters);
            copyRow(other.lengths, lengths);
            copyRow(other.heights, heights);
            copyRow(other.limits, limits);
            copyRow(other.values, values);
            copyRow(other.totals, totals);
        }

        // -- what there is

        boolean hasChair(int c) {
            return c >= 0 && c < chairs;
        }

        boolean hasFloor(int f) {
            return f >= 0 && f < floors;
        }

        int length(int c, int k) {
            return at(lengths, c * LEGS + k);
        }

        int height(int f, int k) {
            return at(heights, f * LEGS + k);
        }

        int limit(int g, int k) {
            return at(limits, g * BOUNDS + k);
        }

        int stampedChairs() {
            int stamped = 0;
            for (int c = 0; c < chairs; c++) {
                stamped += at(stamps, c);
            }
            return stamped;
        }

        int reachOn(int c, int k, int f, int q) {
            return at(lengths, c * LEGS + k) - at(heights, f * LEGS + (k + q) % LEGS);
        }

        int reachNow(int c, int k) {
            return reachOn(c, k, at(floorsUnder, c), at(quarters, c));
        }

        int wobbleOn(int c, int f, int q) {
            int even = reachOn(c, 0, f, q) + reachOn(c, 2, f, q);
            int odd = reachOn(c, 1, f, q) + reachOn(c, 3, f, q);
            return even > odd ? even - odd : odd - even;
        }

        int wobbleNow(int c) {
            return wobbleOn(c, at(floorsUnder, c), at(quarters, c));
        }

        int leanOn(int c, int f, int q) {
            int least = reachOn(c, 0, f, q);
            int greatest = least;
            for (int k = 1; k < LEGS; k++) {
                int reach = reachOn(c, k, f, q);
                least = Math.min(least, reach);
                greatest = Math.max(greatest, reach);
            }
            return greatest - least;
        }

        int leanNow(int c) {
            return leanOn(c, at(floorsUnder, c), at(quarters, c));
        }

        /** How far a leg is from its spot when the three others stand. */
        int gapUnder(int c, int k) {
            int beside = reachNow(c, (k + 1) % LEGS) + reachNow(c, (k + 3) % LEGS);
            int gap = beside - reachNow(c, (k + 2) % LEGS) - reachNow(c, k);
            return gap < 0 ? -gap : gap;
        }

        int greatestGap(int c) {
            int greatest = 0;
            for (int k = 0; k < LEGS; k++) {
                greatest = Math.max(greatest, gapUnder(c, k));
            }
            return greatest;
        }

        int seatHeight(int c) {
            int sum = 0;
            for (int k = 0; k < LEGS; k++) {
                sum += length(c, k);
            }
            return sum / LEGS;
        }

        int idleLeg(int c) {
            int r0 = reachNow(c, 0);
            int r1 = reachNow(c, 1);
            int r2 = reachNow(c, 2);
            int r3 = reachNow(c, 3);
            if (r0 + r2 == r1 + r3) {
                return NONE;
            }
            if (r0 + r2 < r1 + r3) {
                return r2 < r0 ? 2 : 0;
            }
            return r3 < r1 ? 3 : 1;
        }

        int reason(int c) {
            int g = at(guilds, c);
            int f = at(floorsUnder, c);
            int q = at(quarters, c);
            if (wobbleOn(c, f, q) > limit(g, MOST_WOBBLE)) {
                return 1;
            }
            if (leanOn(c, f, q) > limit(g, MOST_LEAN)) {
                return 2;
            }
            int seat = seatHeight(c);
            if (seat < limit(g, LEAST_SEAT)) {
                return 3;
            }
            return seat > limit(g, MOST_SEAT) ? 4 : 0;
        }

        // -- actions: each is refused with a negative answer, and then changes nothing

        int addChair(int g, int length) {
            if (!within(g, 0, GUILDS - 1)) {
                return NO_SUCH;
            }
            if (!within(length, LEAST_LENGTH, MOST_LENGTH)) {
                return BAD_ARGUMENT;
            }
            if (chairs >= MOST_CHAIRS) {
                return BAD_STATE;
            }
            int c = chairs;
            chairs++;
            put(guilds, c, g);
            put(floorsUnder, c, 0);
            put(quarters, c, 0);
            put(stamps, c, 0);
            put(sitters, c, 0);
            for (int k = 0; k < LEGS; k++) {
                put(lengths, c * LEGS + k, length);
            }
            return c;
        }

        int layFloor(int a, int b, int c, int d) {
            if (!isSpot(a) || !isSpot(b) || !isSpot(c) || !isSpot(d)) {
                return BAD_ARGUMENT;
            }
            if (floors >= MOST_FLOORS) {
                return BAD_STATE;
            }
            int f = floors;
            floors++;
            put(heights, f * LEGS, a);
            put(heights, f * LEGS + 1, b);
            put(heights, f * LEGS + 2, c);
            put(heights, f * LEGS + 3, d);
            return f;
        }

        boolean isSpot(int height) {
            return within(height, 0, MOST_SPOT);
        }

        int changeSpot(int f, int k, int v) {
            if (!hasFloor(f) || !within(k, 0, LEGS - 1)) {
                return NO_SUCH;
            }
            if (!isSpot(v)) {
                return BAD_ARGUMENT;
            }
            int previous = height(f, k);
            put(heights, f * LEGS + k, v);
            for (int c = 0; c < chairs && previous != v; c++) {
                if (at(floorsUnder, c) == f) {
                    voidStamp(c);
                }
            }
            return previous;
        }

        int moveChair(int c, int f, int q) {
            if (!hasChair(c) || !hasFloor(f)) {
                return NO_SUCH;
            }
            if (!within(q, 0, 3)) {
                return BAD_ARGUMENT;
            }
            if (at(floorsUnder, c) != f || at(quarters, c) != q) {
                voidStamp(c);
            }
            put(floorsUnder, c, f);
            put(quarters, c, q);
            return wobbleOn(c, f, q);
        }

        int sawLeg(int c, int k, int n) {
            if (!hasChair(c) || !within(k, 0, LEGS - 1)) {
                return NO_SUCH;
            }
            if (!within(n, 1, MOST_SAWN)) {
                return BAD_ARGUMENT;
            }
            int length = length(c, k) - n;
            if (length < LEAST_LENGTH) {
                return BAD_STATE;
            }
            put(lengths, c * LEGS + k, length);
            voidStamp(c);
            count(SAWN, n);
            return length;
        }

        int shimLeg(int c, int k, int n) {
            if (!hasChair(c) || !within(k, 0, LEGS - 1)) {
                return NO_SUCH;
            }
            if (!within(n, 1, MOST_SHIMMED)) {
                return BAD_ARGUMENT;
            }
            int length = length(c, k) + n;
            if (length > MOST_LENGTH) {
                return BAD_STATE;
            }
            put(lengths, c * LEGS + k, length);
            voidStamp(c);
            count(SHIMMED, n);
            return length;
        }

        int testChair(int c) {
            if (!hasChair(c)) {
                return NO_SUCH;
            }
            count(TESTS, 1);
            count(FEES, at(values, FEE));
            int reason = reason(c);
            if (reason == 0 && at(stamps, c) == 0) {
                put(stamps, c, 1);
                count(STAMPS, 1);
            }
            return reason;
        }

        int sitDown(int c, int weight) {
            if (!hasChair(c)) {
                return NO_SUCH;
            }
            if (!within(weight, 1, MOST_WEIGHT)) {
                return BAD_ARGUMENT;
            }
            put(sitters, c, at(sitters, c) + 1);
            count(SITTERS, 1);
            // The idle leg is that of the moment of sitting down, before any leg wears.
            int idle = idleLeg(c);
            int most = wearOf(weight);
            int worn = 0;
            for (int k = 0; k < LEGS; k++) {
                if (k != idle) {
                    worn += wearLeg(c, k, most);
                }
            }
            count(WORN, worn);
            return worn;
        }

        int wearOf(int weight) {
            int hardness = at(values, HARDNESS);
            return hardness < 1 ? 0 : weight / hardness;
        }

        int wearLeg(int c, int k, int most) {
            int length = length(c, k);
            int wear = Math.min(most, length - LEAST_LENGTH);
            if (wear <= 0) {
                return 0;
            }
            put(lengths, c * LEGS + k, length - wear);
            voidStamp(c);
            return wear;
        }

        int changeBound(int g, int k, int v) {
            if (!within(g, 0, GUILDS - 1) || !within(k, 0, BOUNDS - 1)) {
                return NO_SUCH;
            }
            if (!isBound(k, v)) {
                return BAD_ARGUMENT;
            }
            put(limits, g * BOUNDS + k, v);
            int voided = 0;
            for (int c = 0; c < chairs; c++) {
                if (at(guilds, c) == g && reason(c) != 0) {
                    voided += voidStamp(c);
                }
            }
            return voided;
        }

        boolean isBound(int k, int v) {
            switch (k) {
                case LEAST_SEAT:
                case MOST_SEAT: return within(v, 100, 900);
                case MOST_WOBBLE: return within(v, 0, 100);
                case MOST_LEAN: return within(v, 0, 200);
                default: return false;
            }
        }

        int changeSetting(int what, int v) {
            boolean fee = what == FEE && within(v, 0, MOST_FEE);
            boolean hardness = what == HARDNESS && within(v, 1, MOST_HARDNESS);
            if (!fee && !hardness) {
                return BAD_ARGUMENT;
            }
            int previous = at(values, what);
            put(values, what, v);
            return previous;
        }

        /** Answers how many stamps become void by it: 1, or 0 if the chair has none. */
        int voidStamp(int c) {
            if (at(stamps, c) == 0) {
                return 0;
            }
            put(stamps, c, 0);
            count(VOIDS, 1);
            return 1;
        }

        void count(int total, int more) {
            put(totals, total, at(totals, total) + more);
        }

        // -- what would be

        int bestQuarters(int c, int f) {
            int best = 0;
            for (int q = 1; q < LEGS; q++) {
                int less = wobbleOn(c, f, q) - wobbleOn(c, f, best);
                if (less < 0 || less == 0 && leanOn(c, f, q) < leanOn(c, f, best)) {
                    best = q;
                }
            }
            return best;
        }

        int bestFloorFor(int c) {
            int best = 0;
            int least = wobbleOn(c, 0, bestQuarters(c, 0));
            for (int f = 1; f < floors; f++) {
                int wobble = wobbleOn(c, f, bestQuarters(c, f));
                if (wobble < least) {
                    best = f;
                    least = wobble;
                }
            }
            return best;
        }

        /** Tries every leg in turn on this office, which must be a copy. */
        int bestSawnLeg(int c) {
            int wobble = wobbleNow(c);
            int best = NONE;
            int least = 0;
            for (int k = 0; k < LEGS && wobble > 0; k++) {
                int length = length(c, k);
                if (length - wobble < LEAST_LENGTH) {
                    continue;
                }
                put(lengths, c * LEGS + k, length - wobble);
                int lean = leanNow(c);
                if (wobbleNow(c) == 0 && (best == NONE || lean < least)) {
                    best = k;
                    least = lean;
                }
                put(lengths, c * LEGS + k, length);
            }
            return best;
        }
    }

    /** The last states, in a ring with one place more for the state before the next action. */
    private static final class Memory {
        private static final int PLACES = MOST_REMEMBERED + 1;

        private final Office[] places = new Office[PLACES];
        private int next = 0;
        private int count = 0;

        Memory() {
            for (int i = 0; i < places.length; i++) {
                places[i] = new Office();
            }
        }

        Office place(int index) {
            return index >= 0 && index < places.length ? places[index] : null;
        }

        void forget() {
            count = 0;
        }

        /** Nothing is forgotten by a draft, so that an action can still be refused. */
        void draft(Office state) {
            Office free = place(next);
            if (free != null) {
                free.copyFrom(state);
            }
        }

        void keepDraft() {
            next = (next + 1) % PLACES;
            count = Math.min(count + 1, MOST_REMEMBERED);
        }

        void takeBack(Office state) {
            if (count == 0) {
                return;
            }
            count--;
            next = (next + PLACES - 1) % PLACES;
            Office last = place(next);
            if (last != null) {
                state.copyFrom(last);
            }
        }
    }

    private static final class Slot {
        private final Office content = new Office();
        private boolean used = false;
    }

    /** The text buffer, and the reading of it as an office. */
    private static final class OfficeText {
        private static final String LETTERS = "cshfbtwg";
        private static final int NUMBERS = 4;
        private static final int FORM = 3;

        // For each of LETTERS the digits, the least and the most of up to four numbers.
        private static final int[] FORMS = {
            1, 0, 3, 3, 100, 900, 0, 0, 0, 0, 0, 0,
            1, 0, 9, 1, 0, 3, 3, 1, 800, 0, 0, 0,
            1, 0, 9, 1, 0, 3, 2, 1, 99, 0, 0, 0,
            2, 0, 50, 2, 0, 50, 2, 0, 50, 2, 0, 50,
            1, 0, 9, 1, 0, 3, 1, 0, 3, 0, 0, 0,
            1, 0, 9, 0, 0, 0, 0, 0, 0, 0, 0, 0,
            1, 0, 9, 3, 1, 200, 0, 0, 0, 0, 0, 0,
            1, 0, 3, 1, 0, 3, 3, 0, 900, 0, 0, 0,
        };

        private final int[] codes = new int[MOST_TEXT];
        private int length = 0;
        private int position = 0;
        private int letter = NONE;
        private final int[] numbers = new int[NUMBERS];

        boolean isFull() {
            return length >= MOST_TEXT;
        }

        int add(int code) {
            put(codes, length, code);
            length++;
            return length;
        }

        int empty() {
            int previous = length;
            length = 0;
            return previous;
        }

        int firstError() {
            if (codeAt(0) != 'K') {
                return 0;
            }
            goToCommands();
            for (int i = 0; i < MOST_TEXT && position < length; i++) {
                if (!readCommand()) {
                    return position;
                }
            }
            return NONE;
        }

        void goToCommands() {
            position = 1;
        }

        int codeAt(int index) {
            return index < length ? at(codes, index) : NONE;
        }

        /** Reads a command at the position; if it can't, the position is that of the error. */
        boolean readCommand() {
            letter = codeAt(position);
            int row = letter == NONE ? NONE : LETTERS.indexOf((char) letter);
            if (row == NONE) {
                return false;
            }
            position++;
            for (int i = 0; i < NUMBERS; i++) {
                int form = (row * NUMBERS + i) * FORM;
                int number = readNumber(at(FORMS, form), at(FORMS, form + 1), at(FORMS, form + 2));
                if (number == NONE) {
                    return false;
                }
                put(numbers, i, number);
            }
            return true;
        }

        /** With no digits to read, the number is 0. */
        int readNumber(int digits, int least, int most) {
            int unit = 1;
            for (int i = 1; i < digits; i++) {
                unit = unit * 10;
            }
            int lowest = 0;
            for (int i = 0; i < digits; i++) {
                int code = codeAt(position);
                if (!within(code, '0', '9')) {
                    return NONE;
                }
                lowest += (code - '0') * unit;
                // The numbers that begin with these digits are lowest to lowest + unit - 1.
                if (lowest > most || lowest + unit - 1 < least) {
                    return NONE;
                }
                unit = unit / 10;
                position++;
            }
            return lowest;
        }
    }
}
