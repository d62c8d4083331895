/** Promises 6 to 12: about, chairOf, wobble, legOf, spot, boundOf, setting. */
public final class EdgesOfReadingTest {
    public static void main(String[] args) {
        Edges.run(EdgesOfReadingTest.class);
    }

    @Says(promise = 6, sentence = "0: the chairs")
    static void chairs(Check check) {
        ChairStamps x = new ChairStamps();
        for (int c = 0; c < 10; c++) {
            check.same("chairs", x.about(0), c);
            x.chair(0, 450);
        }
        check.same("all chairs", x.about(0), 10);
    }

    @Says(promise = 6, sentence = "1: the floors")
    static void floors(Check check) {
        ChairStamps x = new ChairStamps();
        for (int f = 1; f <= 3; f++) {
            check.same("floors", x.about(1), f);
            x.floor(0, 0, 0, 0);
        }
        check.same("all floors", x.about(1), 4);
    }

    @Says(promise = 6, sentence = "2: the stamped chairs")
    static void stampedChairs(Check check) {
        ChairStamps x = Offices.fullOfChairs();
        for (int c = 0; c < 10; c++) {
            x.shim(c, 0, 1);
        }
        check.same("none", x.about(2), 0);
        for (int c = 9; c >= 0; c--) {
            x.test(c);
            check.same("those from " + c + " on", x.about(2), 10 - c);
        }
        x.saw(9, 0, 1);
        check.same("all but the last", x.about(2), 9);
        x.test(8);
        check.same("one tested twice", x.about(2), 9);
    }

    @Says(promise = 6, sentence = "3: the tests so far")
    static void tests(Check check) {
        ChairStamps x = Offices.withLegs(450, 450, 450, 450);
        x.chair(0, 399);
        check.same("none", x.about(3), 0);
        x.test(0);
        x.test(0);
        x.test(1);
        check.same("sound, stamped and failing ones", x.about(3), 3);
        check.refused("a chair that is not there", Check.INDEX, () -> x.test(2));
        check.same("a refused one is none", x.about(3), 3);
    }

    @Says(promise = 6, sentence = "4: the stamps given so far")
    static void stampsGiven(Check check) {
        ChairStamps x = Offices.withLegs(450, 450, 450, 450);
        check.same("none", x.about(4), 0);
        x.test(0);
        x.test(0);
        check.same("not given twice", x.about(4), 1);
        x.saw(0, 0, 1);
        check.same("given though void now", x.about(4), 1);
        x.test(0);
        check.same("given anew", x.about(4), 2);
        x.bound(0, 0, 900);
        x.test(0);
        check.same("not given to one that fails", x.about(4), 2);
    }

    @Says(promise = 6, sentence = "5: the stamps that became void so far")
    static void stampsVoid(Check check) {
        ChairStamps x = Offices.withLegs(450, 450, 450, 450);
        x.saw(0, 0, 1);
        check.same("one without a stamp", x.about(5), 0);
        Check.Use[] calls = {y -> y.saw(0, 0, 1), y -> y.shim(0, 0, 2), y -> y.sit(0, 60), y -> y.level(0, 0, 1),
            y -> y.bring(0, 0, 1), y -> y.bound(0, 0, 900)};
        for (int i = 0; i < calls.length; i++) {
            check.same("tested", x.test(0), 0);
            calls[i].on(x);
            check.same("void by call " + i, x.about(5), i + 1);
        }
    }

    @Says(promise = 6, sentence = "6: the fees so far, in coins")
    static void feesSoFar(Check check) {
        ChairStamps x = Offices.withLegs(450, 450, 450, 450);
        check.same("none", x.about(6), 0);
        for (int fee = 0; fee <= 50; fee++) {
            x.set(0, fee);
            x.test(0);
        }
        check.same("0 to 50, added up", x.about(6), 1275);
    }

    @Says(promise = 6, sentence = "7: the sitters so far")
    static void sittersOfAll(Check check) {
        ChairStamps x = Offices.fullOfChairs();
        check.same("one", x.about(7), 1);
        for (int c = 0; c < 10; c++) {
            x.sit(c, 1);
        }
        check.same("one more on each", x.about(7), 11);
        check.refused("too heavy", Check.ARGUMENT, () -> x.sit(0, 201));
        check.same("a refused one is none", x.about(7), 11);
    }

    @Says(promise = 6, sentence = "8: how much wood was sawn off so far")
    static void sawn(Check check) {
        ChairStamps x = Offices.fullOfChairs();
        check.same("none", x.about(8), 0);
        x.saw(9, 3, 1);
        x.saw(0, 0, 350);
        check.same("of all chairs", x.about(8), 351);
        x.shim(0, 0, 99);
        x.sit(9, 200);
        check.same("neither shimmed nor worn", x.about(8), 351);
        check.refused("too much", Check.STATE, () -> x.saw(0, 0, 100));
        check.same("a refused one is none", x.about(8), 351);
    }

    @Says(promise = 6, sentence = "9: how much legs were shimmed so far")
    static void shimmed(Check check) {
        ChairStamps x = Offices.fullOfChairs();
        check.same("none", x.about(9), 0);
        x.shim(9, 3, 1);
        x.shim(0, 0, 99);
        check.same("of all chairs", x.about(9), 100);
        x.saw(0, 0, 99);
        x.sit(9, 200);
        check.same("neither sawn nor worn", x.about(9), 100);
        check.refused("too much", Check.ARGUMENT, () -> x.shim(0, 0, 100));
        check.same("a refused one is none", x.about(9), 100);
    }

    @Says(promise = 6, sentence = "10: how much legs wore so far")
    static void worn(Check check) {
        ChairStamps x = new ChairStamps();
        x.chair(0, 450);
        x.chair(0, 101);
        check.same("none", x.about(10), 0);
        x.sit(0, 59);
        check.same("a light sitter", x.about(10), 0);
        x.sit(0, 60);
        check.same("all four legs", x.about(10), 4);
        x.sit(1, 200);
        check.same("as far as they can", x.about(10), 8);
        x.saw(0, 0, 9);
        x.shim(1, 0, 9);
        check.same("neither sawn nor shimmed", x.about(10), 8);
    }

    @Says(promise = 6, sentence = "Throws IllegalArgumentException if what is not 0 to 10")
    static void aboutWhat(Check check) {
        check.range(Check.ARGUMENT, Offices::busy, 0, 10, ChairStamps::about);
        check.range(Check.ARGUMENT, ChairStamps::new, 0, 10, ChairStamps::about);
    }

    @Says(promise = 7, sentence = "0: its guild")
    static void guild(Check check) {
        ChairStamps x = Offices.fullOfChairs();
        int[] due = {0, 1, 2, 3, 0, 1, 2, 3, 0, 1};
        for (int c = 0; c < 10; c++) {
            check.same("the chair " + c, x.chairOf(c, 0), due[c]);
        }
    }

    @Says(promise = 7, sentence = "1: its floor")
    static void floorOfAChair(Check check) {
        ChairStamps x = Offices.full();
        for (int c = 0; c < 10; c++) {
            x.bring(c, c % 4, 0);
        }
        for (int c = 0; c < 10; c++) {
            check.same("the chair " + c, x.chairOf(c, 1), c % 4);
        }
    }

    @Says(promise = 7, sentence = "2: its quarters")
    static void quartersOfAChair(Check check) {
        ChairStamps x = Offices.full();
        for (int c = 0; c < 10; c++) {
            x.bring(c, 0, 3 - c % 4);
        }
        for (int c = 0; c < 10; c++) {
            check.same("the chair " + c, x.chairOf(c, 2), 3 - c % 4);
        }
    }

    @Says(promise = 7, sentence = "3: its lean")
    static void lean(Check check) {
        check.same("none", Offices.withLegs(450, 450, 450, 450).chairOf(0, 3), 0);
        check.same("the most on an even floor", Offices.withLegs(900, 100, 500, 300).chairOf(0, 3), 800);
        // Turned by 2 on the spots 3, 0, 0, 4, the legs reach 479, 476, 476, 479.
        check.same("by reaches", Offices.busy().chairOf(1, 3), 3);
    }

    @Says(promise = 7, sentence = "4: the height of its seat")
    static void seat(Check check) {
        check.same("the least", Offices.withLegs(100, 100, 100, 100).chairOf(0, 4), 100);
        check.same("the most", Offices.withLegs(900, 900, 900, 900).chairOf(0, 4), 900);
        check.same("1917 / 4", Offices.busy().chairOf(1, 4), 479);
    }

    @Says(promise = 7, sentence = "5: its idle leg, NONE without one")
    static void idleLegOrNone(Check check) {
        check.same("none", Offices.withLegs(450, 450, 450, 450).chairOf(0, 5), ChairStamps.NONE);
        for (int k = 0; k <= 3; k++) {
            ChairStamps x = Offices.withLegs(450, 450, 450, 450);
            x.saw(0, k, 1);
            check.same("the leg " + k, x.chairOf(0, 5), k);
        }
    }

    @Says(promise = 7, sentence = "6: 1 if it is stamped, otherwise 0")
    static void stampedOrNot(Check check) {
        ChairStamps x = Offices.fullOfChairs();
        x.test(9);
        for (int c = 0; c < 10; c++) {
            check.same("the chair " + c, x.chairOf(c, 6), c == 0 || c == 9 ? 1 : 0);
        }
        x.saw(9, 0, 1);
        check.same("void again", x.chairOf(9, 6), 0);
    }

    @Says(promise = 7, sentence = "7: the reason for which it fails now, 0 if it does not")
    static void reasonNow(Check check) {
        check.same("none", Offices.withLegs(450, 450, 450, 446).chairOf(0, 7), 0);
        check.same("its wobble", Offices.withLegs(450, 450, 450, 445).chairOf(0, 7), 1);
        check.same("its lean", Offices.withLegs(450, 450, 437, 437).chairOf(0, 7), 2);
        check.same("too low", Offices.withLegs(399, 399, 399, 399).chairOf(0, 7), 3);
        check.same("too high", Offices.withLegs(501, 501, 501, 501).chairOf(0, 7), 4);
        ChairStamps x = Offices.withLegs(399, 399, 399, 399);
        x.chairOf(0, 7);
        check.same("it is no test", x.about(3), 0);
        x.bound(0, 0, 399);
        check.same("now", x.chairOf(0, 7), 0);
    }

    @Says(promise = 7, sentence = "8: the sitters so far")
    static void sittersOfAChair(Check check) {
        ChairStamps x = Offices.fullOfChairs();
        for (int i = 0; i < 100; i++) {
            x.sit(9, 1);
        }
        check.same("the chair 9", x.chairOf(9, 8), 100);
        check.same("the chair 8", x.chairOf(8, 8), 0);
        check.same("the chair 1", x.chairOf(1, 8), 1);
        x.bring(9, 1, 1);
        x.saw(9, 1, 1);
        check.same("the same when it is moved and sawn", x.chairOf(9, 8), 100);
    }

    @Says(promise = 7, sentence = "Throws IndexOutOfBoundsException if there is no such chair")
    static void chairOfNoChair(Check check) {
        check.range(Check.INDEX, Offices::busy, 0, 1, (x, c) -> x.chairOf(c, 8));
        check.range(Check.INDEX, Offices::fullOfChairs, 0, 9, (x, c) -> x.chairOf(c, 0));
        check.refusedLeaving("no chair at all", Check.INDEX, ChairStamps::new, x -> x.chairOf(0, 0));
        check.refusedLeaving("and what is out of range", Check.INDEX, Offices::busy, x -> x.chairOf(2, 9));
        check.refusedLeaving("and what is out of range", Check.INDEX, Offices::busy, x -> x.chairOf(-1, -1));
    }

    @Says(promise = 7, sentence = "Throws IllegalArgumentException if what is not 0 to 8")
    static void chairOfWhat(Check check) {
        check.range(Check.ARGUMENT, Offices::busy, 0, 8, (x, what) -> x.chairOf(1, what));
    }

    @Says(promise = 8, sentence = "0: told by the sums of reaches")
    static void bySums(Check check) {
        check.same("none", Offices.withLegs(450, 450, 450, 450).wobble(0, 0), 0);
        check.same("the even legs longer", Offices.withLegs(452, 450, 451, 450).wobble(0, 0), 3);
        check.same("the odd legs longer", Offices.withLegs(450, 452, 450, 451).wobble(0, 0), 3);
        check.same("the most on an even floor", Offices.withLegs(100, 900, 100, 900).wobble(0, 0), 1600);
    }

    @Says(promise = 8, sentence = "1: told by the greatest of the four gaps, each with three other legs standing")
    static void byGaps(Check check) {
        check.same("none", Offices.withLegs(450, 450, 450, 450).wobble(0, 1), 0);
        check.same("the even legs longer", Offices.withLegs(452, 450, 451, 450).wobble(0, 1), 3);
        check.same("the odd legs longer", Offices.withLegs(450, 452, 450, 451).wobble(0, 1), 3);
        check.same("the most on an even floor", Offices.withLegs(100, 900, 100, 900).wobble(0, 1), 1600);
    }

    @Says(promise = 8, sentence = "Returns the wobble (the same for both ways).")
    static void theSameForBothWays(Check check) {
        ChairStamps x = Offices.full();
        for (int c = 0; c < 10; c++) {
            x.bring(c, c % 4, c / 2 % 4);
            check.same("the chair " + c, x.wobble(c, 1), x.wobble(c, 0));
        }
        check.same("the chair 2 on the floor 2", x.wobble(2, 1), 100);
    }

    @Says(promise = 8, sentence = "Throws IndexOutOfBoundsException if there is no such chair")
    static void wobbleOfNoChair(Check check) {
        check.range(Check.INDEX, Offices::busy, 0, 1, (x, c) -> x.wobble(c, 0));
        check.range(Check.INDEX, Offices::fullOfChairs, 0, 9, (x, c) -> x.wobble(c, 1));
        check.refusedLeaving("no chair at all", Check.INDEX, ChairStamps::new, x -> x.wobble(0, 1));
        check.refusedLeaving("and way is wrong", Check.INDEX, Offices::busy, x -> x.wobble(2, 2));
    }

    @Says(promise = 8, sentence = "Throws IllegalArgumentException if way is neither 0 nor 1")
    static void wobbleWay(Check check) {
        check.range(Check.ARGUMENT, Offices::busy, 0, 1, (x, way) -> x.wobble(1, way));
    }

    @Says(promise = 9, sentence = "0: its length")
    static void length(Check check) {
        ChairStamps x = Offices.withLegs(100, 900, 101, 899);
        int[] due = {100, 900, 101, 899};
        x.floor(50, 50, 50, 50);
        x.bring(0, 1, 2);
        for (int k = 0; k <= 3; k++) {
            check.same("the leg " + k, x.legOf(0, k, 0), due[k]);
        }
    }

    @Says(promise = 9, sentence = "1: its reach (it can be below 100)")
    static void reachBelow100(Check check) {
        ChairStamps x = Offices.withLegs(100, 900, 101, 899);
        x.floor(50, 0, 1, 2);
        x.bring(0, 1, 0);
        int[] due = {50, 900, 100, 897};
        int[] turned = {100, 899, 99, 849};
        for (int k = 0; k <= 3; k++) {
            check.same("the leg " + k, x.legOf(0, k, 1), due[k]);
        }
        x.bring(0, 1, 1);
        for (int k = 0; k <= 3; k++) {
            check.same("the leg " + k + ", turned", x.legOf(0, k, 1), turned[k]);
        }
    }

    @Says(promise = 9, sentence = "2: the spot on which it stands")
    static void spotOfALeg(Check check) {
        ChairStamps x = Offices.withLegs(450, 450, 450, 450);
        int[] round = {0, 1, 2, 3, 0, 1, 2};
        for (int q = 0; q <= 3; q++) {
            x.bring(0, 0, q);
            for (int k = 0; k <= 3; k++) {
                check.same("the leg " + k + " turned by " + q, x.legOf(0, k, 2), round[k + q]);
            }
        }
    }

    @Says(promise = 9, sentence = "Throws IndexOutOfBoundsException if there is no such chair or leg")
    static void legOfNoChairOrLeg(Check check) {
        check.range(Check.INDEX, Offices::fullOfChairs, 0, 9, (x, c) -> x.legOf(c, 3, 0));
        check.range(Check.INDEX, Offices::busy, 0, 1, (x, c) -> x.legOf(c, 0, 2));
        check.range(Check.INDEX, Offices::busy, 0, 3, (x, k) -> x.legOf(1, k, 1));
        check.refusedLeaving("no chair at all", Check.INDEX, ChairStamps::new, x -> x.legOf(0, 0, 0));
        check.refusedLeaving("chair and what", Check.INDEX, Offices::busy, x -> x.legOf(2, 0, 3));
        check.refusedLeaving("leg and what", Check.INDEX, Offices::busy, x -> x.legOf(0, 4, -1));
    }

    @Says(promise = 9, sentence = "Throws IllegalArgumentException if what is not 0 to 2")
    static void legOfWhat(Check check) {
        check.range(Check.ARGUMENT, Offices::busy, 0, 2, (x, what) -> x.legOf(1, 3, what));
    }

    @Says(promise = 10, sentence = "Returns how high a spot is.")
    static void spotHeights(Check check) {
        ChairStamps x = new ChairStamps();
        x.floor(0, 50, 1, 49);
        x.floor(2, 3, 4, 5);
        x.floor(50, 50, 50, 0);
        int[][] due = {{0, 0, 0, 0}, {0, 50, 1, 49}, {2, 3, 4, 5}, {50, 50, 50, 0}};
        for (int i = 0; i < 16; i++) {
            check.same("the spot " + i % 4 + " of the floor " + i / 4, x.spot(i / 4, i % 4), due[i / 4][i % 4]);
        }
    }

    @Says(promise = 10, sentence = "Throws IndexOutOfBoundsException if there is no such floor or spot")
    static void noSuchSpot(Check check) {
        check.range(Check.INDEX, ChairStamps::new, 0, 0, (x, f) -> x.spot(f, 0));
        check.range(Check.INDEX, Offices::busy, 0, 1, (x, f) -> x.spot(f, 3));
        check.range(Check.INDEX, Offices::fullOfFloors, 0, 3, (x, f) -> x.spot(f, 0));
        check.range(Check.INDEX, Offices::busy, 0, 3, (x, k) -> x.spot(1, k));
        check.refusedLeaving("both", Check.INDEX, Offices::busy, x -> x.spot(2, 4));
    }

    @Says(promise = 11, sentence = "Returns a bound of a guild.")
    static void bounds(Check check) {
        ChairStamps x = new ChairStamps();
        int[] first = {400, 500, 4, 12};
        int[] most = {900, 900, 100, 200};
        for (int i = 0; i < 16; i++) {
            check.same("at first", x.boundOf(i / 4, i % 4), first[i % 4]);
            x.bound(i / 4, i % 4, most[i % 4]);
            check.same("changed", x.boundOf(i / 4, i % 4), most[i % 4]);
        }
    }

    @Says(promise = 11, sentence = "k: bound, 0 to 3")
    static void boundsOfAGuild(Check check) {
        check.range(Check.INDEX, Offices::busy, 0, 3, (x, k) -> x.boundOf(0, k));
    }

    @Says(promise = 11, sentence = "Throws IndexOutOfBoundsException if there is no such guild or bound")
    static void noSuchBound(Check check) {
        check.range(Check.INDEX, Offices::busy, 0, 3, (x, g) -> x.boundOf(g, 0));
        check.range(Check.INDEX, ChairStamps::new, 0, 3, (x, k) -> x.boundOf(3, k));
        check.refusedLeaving("both", Check.INDEX, Offices::busy, x -> x.boundOf(4, 4));
    }

    @Says(promise = 12, sentence = "what: 0 or 1")
    static void settings(Check check) {
        ChairStamps x = Offices.busy();
        x.set(1, 200);
        check.same("the fee", x.setting(0), 13);
        check.same("the hardness", x.setting(1), 200);
    }

    @Says(promise = 12, sentence = "Throws IllegalArgumentException if what is out of range")
    static void noSuchSetting(Check check) {
        check.range(Check.ARGUMENT, Offices::busy, 0, 1, ChairStamps::setting);
        check.range(Check.ARGUMENT, ChairStamps::new, 0, 1, ChairStamps::setting);
    }

    @Says(promise = 6, sentence = "Returns a number.")
    static void readingChangesNothing(Check check) {
        check.changesNothing("about", Offices::busy, x -> x.about(2));
        check.changesNothing("chairOf", Offices::busy, x -> x.chairOf(1, 7));
        check.changesNothing("wobble", Offices::busy, x -> x.wobble(1, 1));
        check.changesNothing("legOf", Offices::busy, x -> x.legOf(1, 3, 1));
        check.changesNothing("spot", Offices::busy, x -> x.spot(1, 3));
        check.changesNothing("boundOf", Offices::busy, x -> x.boundOf(3, 3));
        check.changesNothing("setting", Offices::busy, x -> x.setting(1));
    }
}
