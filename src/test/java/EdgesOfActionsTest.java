/** Promises 13 to 18: chair, floor, level, bring, saw, shim. */
public final class EdgesOfActionsTest {
    public static void main(String[] args) {
        Edges.run(EdgesOfActionsTest.class);
    }

    @Says(promise = 13, sentence = "A chair comes.")
    static void aChairComes(Check check) {
        ChairStamps x = Check.loaded("Kc0450t0w0060");
        x.chair(3, 900);
        int[] due = {3, 0, 0, 0, 900, -1, 0, 4, 0};
        for (int what = 0; what <= 8; what++) {
            check.same("chairOf(1, " + what + ")", x.chairOf(1, what), due[what]);
        }
        check.same("the other chair stays", x.chairOf(0, 8), 1);
        x.undo();
        x.chair(0, 450);
        check.same("nothing of one that was taken back", x.chairOf(1, 4), 450);
    }

    @Says(promise = 13, sentence = "g: guild")
    static void guilds(Check check) {
        ChairStamps x = new ChairStamps();
        for (int c = 0; c < 10; c++) {
            x.chair(3 - c % 4, 450);
            check.same("the guild", x.chairOf(c, 0), 3 - c % 4);
        }
    }

    @Says(promise = 13, sentence = "length: 100 to 900: of all legs")
    static void lengthOfAllLegs(Check check) {
        ChairStamps x = new ChairStamps();
        for (int length : new int[] {100, 101, 899, 900}) {
            int c = x.chair(0, length);
            for (int k = 0; k <= 3; k++) {
                check.same("the leg " + k, x.legOf(c, k, 0), length);
            }
        }
    }

    @Says(promise = 13, sentence = "Returns its number.")
    static void numbersOfChairs(Check check) {
        ChairStamps x = new ChairStamps();
        for (int c = 0; c < 10; c++) {
            check.same("the number", x.chair(0, 450), c);
        }
        x.undo();
        check.same("the number of one taken back", x.chair(0, 450), 9);
    }

    @Says(promise = 13, sentence = "Throws IndexOutOfBoundsException if there is no such guild")
    static void chairOfNoGuild(Check check) {
        check.range(Check.INDEX, Offices::busy, 0, 3, (x, g) -> x.chair(g, 450));
        check.refusedLeaving("and the length", Check.INDEX, Offices::busy, x -> x.chair(4, 99));
        check.refusedLeaving("and there are 10", Check.INDEX, Offices::fullOfChairs, x -> x.chair(-1, 450));
        check.refusedLeaving("and both", Check.INDEX, Offices::fullOfChairs, x -> x.chair(4, 901));
    }

    @Says(promise = 13, sentence = "Throws IllegalArgumentException if length is out of range")
    static void chairOfNoLength(Check check) {
        check.range(Check.ARGUMENT, Offices::busy, 100, 900, (x, length) -> x.chair(3, length));
        check.refusedLeaving("and there are 10", Check.ARGUMENT, Offices::fullOfChairs, x -> x.chair(0, 901));
        check.refusedLeaving("and there are 10", Check.ARGUMENT, Offices::fullOfChairs, x -> x.chair(0, 99));
    }

    @Says(promise = 13, sentence = "Throws IllegalStateException if there are 10")
    static void chairsFull(Check check) {
        for (int g = 0; g <= 3; g++) {
            int guild = g;
            check.refusedLeaving("an eleventh", Check.STATE, Offices::fullOfChairs, x -> x.chair(guild, 450));
        }
        ChairStamps x = Offices.fullOfChairs();
        x.undo();
        check.same("a tenth", x.chair(0, 450), 9);
    }

    @Says(promise = 14, sentence = "A floor is laid.")
    static void aFloorIsLaid(Check check) {
        ChairStamps x = Check.loaded("Kc0450t0");
        x.floor(50, 1, 2, 49);
        check.same("floors", x.about(1), 2);
        check.same("the stamp on another floor", x.chairOf(0, 6), 1);
        check.same("the chair stays where it was", x.chairOf(0, 1), 0);
        check.same("the floor 0 stays", x.spot(0, 0), 0);
        x.undo();
        x.floor(0, 0, 0, 0);
        check.same("nothing of one that was taken back", x.spot(1, 0), 0);
    }

    private static void spotOfAFloor(Check check, int k, Check.UseOf call) {
        for (int v : new int[] {0, 1, 49, 50}) {
            ChairStamps x = new ChairStamps();
            call.on(x, v);
            for (int i = 0; i <= 3; i++) {
                check.same("the spot " + i, x.spot(1, i), i == k ? v : 7);
            }
        }
        check.range(Check.ARGUMENT, Offices::busy, 0, 50, call);
    }

    @Says(promise = 14, sentence = "a: 0 to 50: the height of the spot 0")
    static void heightA(Check check) {
        spotOfAFloor(check, 0, (x, v) -> x.floor(v, 7, 7, 7));
    }

    @Says(promise = 14, sentence = "b: 0 to 50: of the spot 1")
    static void heightB(Check check) {
        spotOfAFloor(check, 1, (x, v) -> x.floor(7, v, 7, 7));
    }

    @Says(promise = 14, sentence = "c: 0 to 50: of the spot 2")
    static void heightC(Check check) {
        spotOfAFloor(check, 2, (x, v) -> x.floor(7, 7, v, 7));
    }

    @Says(promise = 14, sentence = "d: 0 to 50: of the spot 3")
    static void heightD(Check check) {
        spotOfAFloor(check, 3, (x, v) -> x.floor(7, 7, 7, v));
    }

    @Says(promise = 14, sentence = "Returns its number.")
    static void numbersOfFloors(Check check) {
        ChairStamps x = new ChairStamps();
        for (int f = 1; f <= 3; f++) {
            check.same("the number", x.floor(0, 0, 0, 0), f);
        }
        x.undo();
        check.same("the number of one taken back", x.floor(0, 0, 0, 0), 3);
    }

    @Says(promise = 14, sentence = "Throws IllegalArgumentException if an argument is out of range")
    static void floorOfNoHeight(Check check) {
        check.refusedLeaving("all too high", Check.ARGUMENT, Offices::busy, x -> x.floor(51, 51, 51, 51));
        check.refusedLeaving("all too low", Check.ARGUMENT, Offices::busy, x -> x.floor(-1, -1, -1, -1));
        check.refusedLeaving("a, and there are 4", Check.ARGUMENT, Offices::fullOfFloors, x -> x.floor(51, 0, 0, 0));
        check.refusedLeaving("b, and there are 4", Check.ARGUMENT, Offices::fullOfFloors, x -> x.floor(0, -1, 0, 0));
        check.refusedLeaving("c, and there are 4", Check.ARGUMENT, Offices::fullOfFloors, x -> x.floor(0, 0, 51, 0));
        check.refusedLeaving("d, and there are 4", Check.ARGUMENT, Offices::fullOfFloors, x -> x.floor(0, 0, 0, -1));
    }

    @Says(promise = 14, sentence = "Throws IllegalStateException if there are 4")
    static void floorsFull(Check check) {
        check.refusedLeaving("a fifth, low", Check.STATE, Offices::fullOfFloors, x -> x.floor(0, 0, 0, 0));
        check.refusedLeaving("a fifth, high", Check.STATE, Offices::fullOfFloors, x -> x.floor(50, 50, 50, 50));
        ChairStamps x = Offices.fullOfFloors();
        x.undo();
        check.same("a fourth", x.floor(50, 50, 50, 50), 3);
    }

    @Says(promise = 15, sentence = "Changes the height of a spot.")
    static void aSpotChanges(Check check) {
        for (int i = 0; i < 16; i++) {
            ChairStamps x = Offices.fullOfFloors();
            int[] before = new int[16];
            for (int j = 0; j < 16; j++) {
                before[j] = x.spot(j / 4, j % 4);
            }
            x.level(i / 4, i % 4, 9);
            for (int j = 0; j < 16; j++) {
                check.same("the spot " + j, x.spot(j / 4, j % 4), j == i ? 9 : before[j]);
            }
        }
    }

    @Says(promise = 15, sentence = "v: 0 to 50")
    static void newHeights(Check check) {
        ChairStamps x = new ChairStamps();
        for (int v = 0; v <= 50; v++) {
            x.level(0, 2, v);
            check.same("the height", x.spot(0, 2), v);
        }
    }

    @Says(promise = 15, sentence = "Returns the previous height.")
    static void heightsBefore(Check check) {
        ChairStamps x = new ChairStamps();
        int[] heights = {50, 0, 0, 1, 50, 50, 49};
        int previous = 0;
        for (int v : heights) {
            check.same("the height before " + v, x.level(0, 1, v), previous);
            previous = v;
        }
    }

    @Says(promise = 15, sentence = "Throws IndexOutOfBoundsException if there is no such floor or spot")
    static void levelOfNoSpot(Check check) {
        check.range(Check.INDEX, Offices::busy, 0, 1, (x, f) -> x.level(f, 0, 9));
        check.range(Check.INDEX, Offices::fullOfFloors, 0, 3, (x, f) -> x.level(f, 3, 9));
        check.range(Check.INDEX, Offices::busy, 0, 3, (x, k) -> x.level(1, k, 9));
        check.refusedLeaving("floor and height", Check.INDEX, Offices::busy, x -> x.level(2, 0, 51));
        check.refusedLeaving("spot and height", Check.INDEX, Offices::busy, x -> x.level(0, 4, -1));
    }

    @Says(promise = 15, sentence = "Throws IllegalArgumentException if v is out of range")
    static void levelOfNoHeight(Check check) {
        check.range(Check.ARGUMENT, Offices::busy, 0, 50, (x, v) -> x.level(0, 0, v));
    }

    @Says(promise = 16, sentence = "Brings a chair to a floor, turned.")
    static void aChairIsBrought(Check check) {
        ChairStamps x = Offices.full();
        for (int i = 0; i < 16; i++) {
            x.bring(9, i / 4, i % 4);
            check.same("the floor", x.chairOf(9, 1), i / 4);
            check.same("the quarters", x.chairOf(9, 2), i % 4);
            check.same("the other chair's floor", x.chairOf(8, 1), 0);
            check.same("the other chair's quarters", x.chairOf(1, 2), 2);
        }
    }

    @Says(promise = 16, sentence = "q: 0 to 3: quarters")
    static void quarters(Check check) {
        check.range(Check.ARGUMENT, Offices::busy, 0, 3, (x, q) -> x.bring(1, 1, q));
    }

    @Says(promise = 16, sentence = "Returns its wobble then.")
    static void wobbleThen(Check check) {
        ChairStamps x = Offices.withLegs(450, 450, 450, 460);
        x.floor(0, 0, 0, 10);
        int[] due = {0, 20, 0, 20};
        for (int q = 0; q <= 3; q++) {
            check.same("turned by " + q, x.bring(0, 1, q), due[q]);
        }
        check.same("on the floor 0", x.bring(0, 0, 3), 10);
    }

    @Says(promise = 16, sentence = "Throws IndexOutOfBoundsException if there is no such chair or floor")
    static void bringToNoFloor(Check check) {
        check.range(Check.INDEX, Offices::busy, 0, 1, (x, c) -> x.bring(c, 1, 1));
        check.range(Check.INDEX, Offices::fullOfChairs, 0, 9, (x, c) -> x.bring(c, 0, 1));
        check.range(Check.INDEX, Offices::busy, 0, 1, (x, f) -> x.bring(0, f, 1));
        check.range(Check.INDEX, Offices::fullOfFloors, 0, 3, (x, f) -> x.bring(1, f, 1));
        check.refusedLeaving("chair and quarters", Check.INDEX, Offices::busy, x -> x.bring(2, 0, 4));
        check.refusedLeaving("floor and quarters", Check.INDEX, Offices::busy, x -> x.bring(0, 2, -1));
    }

    @Says(promise = 16, sentence = "Throws IllegalArgumentException if q is out of range")
    static void bringByNoQuarters(Check check) {
        check.range(Check.ARGUMENT, Offices::full, 0, 3, (x, q) -> x.bring(9, 3, q));
    }

    /** One leg of all is another after the call. */
    private static void oneLeg(Check check, int c, int k, Check.Use call, int due) {
        ChairStamps x = Offices.fullOfChairs();
        int[] before = new int[40];
        for (int i = 0; i < 40; i++) {
            before[i] = x.legOf(i / 4, i % 4, 0);
        }
        call.on(x);
        for (int i = 0; i < 40; i++) {
            check.same("the leg " + i % 4 + " of the chair " + i / 4, x.legOf(i / 4, i % 4, 0), i == 4 * c + k ? due : before[i]);
        }
    }

    @Says(promise = 17, sentence = "Saws a leg.")
    static void aLegIsSawn(Check check) {
        oneLeg(check, 0, 0, x -> x.saw(0, 0, 50), 400);
        oneLeg(check, 0, 3, x -> x.saw(0, 3, 50), 400);
        oneLeg(check, 1, 0, x -> x.saw(1, 0, 379), 100);
        oneLeg(check, 9, 3, x -> x.saw(9, 3, 1), 448);
    }

    @Says(promise = 17, sentence = "n: 1 to 800")
    static void sawnBy(Check check) {
        check.same("the least", Offices.withLegs(900, 900, 900, 900).saw(0, 1, 1), 899);
        check.same("one less than the most", Offices.withLegs(900, 900, 900, 900).saw(0, 1, 799), 101);
        check.same("the most", Offices.withLegs(900, 900, 900, 900).saw(0, 1, 800), 100);
    }

    @Says(promise = 17, sentence = "Returns its length then.")
    static void lengthsOfSawnLegs(Check check) {
        ChairStamps x = Offices.withLegs(900, 900, 900, 900);
        for (int i = 1; i <= 8; i++) {
            check.same("the length", x.saw(0, 2, 100), 900 - 100 * i);
        }
    }

    @Says(promise = 17, sentence = "Throws IndexOutOfBoundsException if there is no such chair or leg")
    static void sawNoLeg(Check check) {
        check.range(Check.INDEX, Offices::busy, 0, 1, (x, c) -> x.saw(c, 0, 1));
        check.range(Check.INDEX, Offices::fullOfChairs, 0, 9, (x, c) -> x.saw(c, 3, 1));
        check.range(Check.INDEX, Offices::busy, 0, 3, (x, k) -> x.saw(1, k, 1));
        check.refusedLeaving("chair and n", Check.INDEX, Offices::busy, x -> x.saw(2, 0, 0));
        check.refusedLeaving("leg and n", Check.INDEX, Offices::busy, x -> x.saw(0, 4, 801));
        check.refusedLeaving("leg and too short", Check.INDEX, Offices::busy, x -> x.saw(0, -1, 800));
    }

    @Says(promise = 17, sentence = "Throws IllegalArgumentException if n is out of range")
    static void sawBeyond(Check check) {
        check.range(Check.ARGUMENT, () -> Offices.withLegs(900, 900, 900, 900), 1, 800, (x, n) -> x.saw(0, 0, n));
        check.refusedLeaving("and too short", Check.ARGUMENT, Offices::busy, x -> x.saw(0, 0, 801));
        check.refusedLeaving("nothing, of a short leg", Check.ARGUMENT, () -> Offices.withLegs(100, 100, 100, 100),
            x -> x.saw(0, 0, 0));
    }

    @Says(promise = 17, sentence = "Throws IllegalStateException if it would be shorter than 100")
    static void sawTooShort(Check check) {
        check.same("450 to 100", Offices.busy().saw(0, 0, 350), 100);
        check.refusedLeaving("450 to 99", Check.STATE, Offices::busy, x -> x.saw(0, 0, 351));
        check.refusedLeaving("450 by 800", Check.STATE, Offices::busy, x -> x.saw(0, 3, 800));
        check.refusedLeaving("100 by 1", Check.STATE, () -> Offices.withLegs(100, 100, 100, 100), x -> x.saw(0, 2, 1));
        check.refusedLeaving("899 by 800", Check.STATE, () -> Offices.withLegs(899, 899, 899, 899), x -> x.saw(0, 2, 800));
    }

    @Says(promise = 18, sentence = "Shims a leg: it becomes longer.")
    static void aLegIsShimmed(Check check) {
        oneLeg(check, 0, 0, x -> x.shim(0, 0, 50), 500);
        oneLeg(check, 0, 3, x -> x.shim(0, 3, 99), 549);
        oneLeg(check, 1, 0, x -> x.shim(1, 0, 21), 500);
        oneLeg(check, 9, 3, x -> x.shim(9, 3, 1), 450);
    }

    @Says(promise = 18, sentence = "n: 1 to 99")
    static void shimmedBy(Check check) {
        check.same("the least", Offices.withLegs(801, 801, 801, 801).shim(0, 1, 1), 802);
        check.same("one less than the most", Offices.withLegs(801, 801, 801, 801).shim(0, 1, 98), 899);
        check.same("the most", Offices.withLegs(801, 801, 801, 801).shim(0, 1, 99), 900);
    }

    @Says(promise = 18, sentence = "Returns its length then.")
    static void lengthsOfShimmedLegs(Check check) {
        ChairStamps x = Offices.withLegs(108, 108, 108, 108);
        for (int i = 1; i <= 8; i++) {
            check.same("the length", x.shim(0, 2, 99), 108 + 99 * i);
        }
        check.same("the greatest length", x.legOf(0, 2, 0), 900);
    }

    @Says(promise = 18, sentence = "Throws IndexOutOfBoundsException if there is no such chair or leg")
    static void shimNoLeg(Check check) {
        check.range(Check.INDEX, Offices::busy, 0, 1, (x, c) -> x.shim(c, 0, 1));
        check.range(Check.INDEX, Offices::fullOfChairs, 0, 9, (x, c) -> x.shim(c, 3, 1));
        check.range(Check.INDEX, Offices::busy, 0, 3, (x, k) -> x.shim(1, k, 1));
        check.refusedLeaving("chair and n", Check.INDEX, Offices::busy, x -> x.shim(2, 0, 0));
        check.refusedLeaving("leg and n", Check.INDEX, Offices::busy, x -> x.shim(0, 4, 100));
        check.refusedLeaving("leg and too long", Check.INDEX, () -> Offices.withLegs(900, 900, 900, 900),
            x -> x.shim(0, 4, 1));
    }

    @Says(promise = 18, sentence = "Throws IllegalArgumentException if n is out of range")
    static void shimBeyond(Check check) {
        check.range(Check.ARGUMENT, Offices::busy, 1, 99, (x, n) -> x.shim(0, 0, n));
        check.refusedLeaving("and too long", Check.ARGUMENT, () -> Offices.withLegs(900, 900, 900, 900),
            x -> x.shim(0, 0, 100));
        check.refusedLeaving("nothing, of a long leg", Check.ARGUMENT, () -> Offices.withLegs(900, 900, 900, 900),
            x -> x.shim(0, 0, 0));
    }

    @Says(promise = 18, sentence = "Throws IllegalStateException if it would be longer than 900")
    static void shimTooLong(Check check) {
        check.same("850 to 900", Offices.withLegs(850, 850, 850, 850).shim(0, 0, 50), 900);
        check.refusedLeaving("850 to 901", Check.STATE, () -> Offices.withLegs(850, 850, 850, 850),
            x -> x.shim(0, 0, 51));
        check.refusedLeaving("900 by 1", Check.STATE, () -> Offices.withLegs(900, 900, 900, 900),
            x -> x.shim(0, 3, 1));
        check.refusedLeaving("802 by 99", Check.STATE, () -> Offices.withLegs(802, 802, 802, 802),
            x -> x.shim(0, 1, 99));
    }
}
