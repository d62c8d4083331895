/** Terms: how long an object is used, divisions, chairs and floors. */
public final class EdgesOfChairsTest {
    public static void main(String[] args) {
        Edges.run(EdgesOfChairsTest.class);
    }

    @Says(sentence = "NONE = -1: There is no such result.")
    static void theConstant(Check check) {
        check.same("NONE", ChairStamps.NONE, -1);
        check.same("no idle leg", Offices.withLegs(450, 450, 450, 450).chairOf(0, 5), -1);
    }

    @Says(sentence = "An object is used for at most 512 calls after it has been made; what later calls answer is free.")
    static void theLastCalls(Check check) {
        ChairStamps x = new ChairStamps();
        check.same("the call 1", x.chair(0, 450), 0);
        for (int call = 2; call <= 510; call++) {
            check.same("the call " + call, x.test(0), 0);
        }
        check.same("the call 511", x.about(3), 509);
        check.same("the call 512", x.undo(), 13);
    }

    @Says(sentence = "All divisions are rounded down.")
    static void roundedDown(Check check) {
        check.same("1799 / 4", Offices.withLegs(450, 450, 450, 449).chairOf(0, 4), 449);
        check.same("1797 / 4", Offices.withLegs(450, 449, 449, 449).chairOf(0, 4), 449);
        check.same("1796 / 4", Offices.withLegs(449, 449, 449, 449).chairOf(0, 4), 449);
        check.same("1795 / 4", Offices.withLegs(448, 449, 449, 449).chairOf(0, 4), 448);
        ChairStamps x = Offices.withLegs(450, 450, 450, 450);
        check.same("four times 59 / 60", x.sit(0, 59), 0);
        check.same("four times 119 / 60", x.sit(0, 119), 4);
        check.same("four times 120 / 60", x.sit(0, 120), 8);
    }

    @Says(sentence = "There are at most 10 chairs, numbered from 0")
    static void atMostTenChairs(Check check) {
        ChairStamps x = new ChairStamps();
        check.refused("the chair 0 of none", Check.INDEX, () -> x.chairOf(0, 0));
        for (int c = 0; c < 10; c++) {
            check.same("the number of the next chair", x.chair(c % 4, 450 + c), c);
        }
        for (int c = 0; c < 10; c++) {
            check.same("the chair " + c, x.chairOf(c, 4), 450 + c);
        }
        check.refused("the chair 10 of ten", Check.INDEX, () -> x.chairOf(10, 0));
        check.refusedLeaving("an eleventh chair", Check.STATE, Offices::fullOfChairs, y -> y.chair(0, 450));
    }

    @Says(sentence = "each of a guild (0 to 3)")
    static void guildsOfChairs(Check check) {
        ChairStamps x = new ChairStamps();
        for (int g = 0; g <= 3; g++) {
            check.same("the guild", x.chairOf(x.chair(g, 450), 0), g);
        }
        check.range(Check.INDEX, Offices::busy, 0, 3, (y, g) -> y.chair(g, 450));
    }

    @Says(sentence = "with four legs, numbered from 0 in the order in which they stand round the seat")
    static void fourLegsInARound(Check check) {
        check.range(Check.INDEX, Offices::busy, 0, 3, (y, k) -> y.legOf(1, k, 0));
        // Legs beside each other are sawn, then legs across the seat.
        check.same("0 and 1", Offices.withLegs(445, 445, 450, 450).wobble(0, 0), 0);
        check.same("1 and 2", Offices.withLegs(450, 445, 445, 450).wobble(0, 0), 0);
        check.same("2 and 3", Offices.withLegs(450, 450, 445, 445).wobble(0, 0), 0);
        check.same("3 and 0", Offices.withLegs(445, 450, 450, 445).wobble(0, 0), 0);
        check.same("0 and 2", Offices.withLegs(445, 450, 445, 450).wobble(0, 0), 10);
        check.same("1 and 3", Offices.withLegs(450, 445, 450, 445).wobble(0, 0), 10);
    }

    @Says(sentence = "each 100 to 900 long")
    static void lengthsOfLegs(Check check) {
        check.range(Check.ARGUMENT, Offices::busy, 100, 900, (y, length) -> y.chair(0, length));
        check.same("sawn to the least", Offices.withLegs(101, 101, 101, 101).saw(0, 0, 1), 100);
        check.same("shimmed to the most", Offices.withLegs(899, 899, 899, 899).shim(0, 3, 1), 900);
        check.refusedLeaving("sawn to 99", Check.STATE, () -> Offices.withLegs(100, 101, 101, 101), y -> y.saw(0, 0, 1));
        check.refusedLeaving("shimmed to 901", Check.STATE, () -> Offices.withLegs(900, 900, 899, 900), y -> y.shim(0, 3, 1));
    }

    @Says(sentence = "a chair stands on a floor, turned by 0 to 3 quarters")
    static void quarters(Check check) {
        ChairStamps x = Offices.fullOfFloors();
        for (int f = 0; f <= 3; f++) {
            for (int q = 0; q <= 3; q++) {
                x.bring(0, f, q);
                check.same("the floor", x.chairOf(0, 1), f);
                check.same("the quarters", x.chairOf(0, 2), q);
            }
        }
        check.range(Check.ARGUMENT, Offices::busy, 0, 3, (y, q) -> y.bring(0, 1, q));
        check.range(Check.INDEX, Offices::fullOfFloors, 0, 3, (y, f) -> y.bring(0, f, 1));
    }

    @Says(sentence = "(at first on the floor 0, turned by 0)")
    static void whereAChairIsAtFirst(Check check) {
        ChairStamps x = Offices.fullOfFloors();
        for (int c = 2; c < 10; c++) {
            x.chair(3, 900);
            check.same("the floor at first", x.chairOf(c, 1), 0);
            check.same("the quarters at first", x.chairOf(c, 2), 0);
        }
    }

    @Says(sentence = "There are at most 4 floors, numbered from 0")
    static void atMostFourFloors(Check check) {
        ChairStamps x = new ChairStamps();
        for (int f = 1; f <= 3; f++) {
            int next = f;
            check.refused("the floor " + f + " of " + f, Check.INDEX, () -> x.spot(next, 0));
            check.same("the number of the next floor", x.floor(f, 0, 0, 0), f);
            check.same("its spot 0", x.spot(f, 0), f);
        }
        check.refused("the floor 4 of four", Check.INDEX, () -> x.spot(4, 0));
        check.refusedLeaving("a fifth floor", Check.STATE, Offices::fullOfFloors, y -> y.floor(1, 1, 1, 1));
    }

    @Says(sentence = "each with four spots, numbered from 0 in a square")
    static void fourSpots(Check check) {
        check.range(Check.INDEX, Offices::busy, 0, 3, (y, k) -> y.spot(1, k));
        ChairStamps x = Offices.withLegs(450, 450, 450, 450);
        // Spots beside each other are raised, then spots across the square.
        x.floor(5, 5, 0, 0);
        x.floor(0, 5, 5, 0);
        x.floor(5, 0, 5, 0);
        check.same("0 and 1", x.bring(0, 1, 0), 0);
        check.same("1 and 2", x.bring(0, 2, 0), 0);
        check.same("0 and 2", x.bring(0, 3, 0), 10);
    }

    @Says(sentence = "each 0 to 50 high")
    static void heightsOfSpots(Check check) {
        check.range(Check.ARGUMENT, Offices::busy, 0, 50, (y, v) -> y.level(1, 3, v));
        check.range(Check.ARGUMENT, Offices::busy, 0, 50, (y, v) -> y.floor(1, 2, v, 4));
    }

    @Says(sentence = "the floor 0 is there from the beginning, all its spots 0 high.")
    static void theFirstFloor(Check check) {
        ChairStamps x = new ChairStamps();
        check.same("floors at first", x.about(1), 1);
        for (int k = 0; k <= 3; k++) {
            check.same("the spot " + k, x.spot(0, k), 0);
        }
        check.refused("the floor 1", Check.INDEX, () -> x.spot(1, 0));
    }

    @Says(sentence = "The leg k of a chair that is turned by q stands on the spot (k + q) modulo 4 of its floor.")
    static void spotsGoRound(Check check) {
        ChairStamps x = Offices.withLegs(450, 450, 450, 450);
        x.floor(10, 20, 30, 40);
        int[][] due = {{0, 1, 2, 3}, {1, 2, 3, 0}, {2, 3, 0, 1}, {3, 0, 1, 2}};
        for (int q = 0; q <= 3; q++) {
            x.bring(0, 1, q);
            for (int k = 0; k <= 3; k++) {
                check.same("the spot of the leg " + k + " turned by " + q, x.legOf(0, k, 2), due[q][k]);
                check.same("the reach of the leg " + k + " turned by " + q, x.legOf(0, k, 1), 440 - 10 * due[q][k]);
            }
        }
    }

    @Says(sentence = "The reach of a leg is its length less the height of its spot.")
    static void reaches(Check check) {
        ChairStamps x = new ChairStamps();
        x.chair(0, 100);
        x.chair(0, 900);
        x.floor(50, 0, 0, 0);
        check.same("the short leg on the low spot", x.legOf(0, 0, 1), 100);
        check.same("the long leg on the low spot", x.legOf(1, 0, 1), 900);
        x.bring(0, 1, 0);
        x.bring(1, 1, 0);
        check.same("the short leg on the high spot", x.legOf(0, 0, 1), 50);
        check.same("the long leg on the high spot", x.legOf(1, 0, 1), 850);
        check.same("its length is the same", x.legOf(0, 0, 0), 100);
    }

    @Says(sentence = "With the reaches r0 to r3 of the legs 0 to 3, the wobble of a chair is r0 + r2 - r1 - r3, without sign.")
    static void wobbleWithoutSign(Check check) {
        int[][] legs = {{450, 450, 450, 450}, {451, 450, 450, 450}, {450, 451, 450, 450}, {450, 450, 451, 450},
            {450, 450, 450, 451}, {900, 100, 900, 100}, {100, 900, 100, 900}, {900, 900, 100, 100}};
        int[] due = {0, 1, 1, 1, 1, 1600, 1600, 0};
        for (int i = 0; i < legs.length; i++) {
            check.same("the legs " + i, Offices.withLegs(legs[i]).wobble(0, 0), due[i]);
        }
        ChairStamps x = Offices.withLegs(900, 100, 900, 100);
        x.floor(0, 50, 0, 50);
        check.same("the most of all", x.bring(0, 1, 0), 1700);
        check.same("turned, the long legs stand high", x.bring(0, 1, 1), 1500);
        ChairStamps y = Offices.withLegs(100, 900, 100, 900);
        y.floor(50, 0, 50, 0);
        check.same("the most of all, below 0 before the sign goes", y.bring(0, 1, 0), 1700);
    }

    @Says(sentence = "The lean is the greatest reach less the least one.")
    static void leans(Check check) {
        check.same("like legs", Offices.withLegs(450, 450, 450, 450).chairOf(0, 3), 0);
        for (int k = 0; k <= 3; k++) {
            ChairStamps x = Offices.withLegs(450, 450, 450, 450);
            x.shim(0, k, 1);
            check.same("the leg " + k + " longer by 1", x.chairOf(0, 3), 1);
            x.saw(0, k, 2);
            check.same("the leg " + k + " shorter by 1", x.chairOf(0, 3), 1);
            x.saw(0, (k + 3) % 4, 300);
            check.same("the leg before it shorter by 300", x.chairOf(0, 3), 300);
        }
        ChairStamps y = Offices.withLegs(900, 900, 900, 100);
        check.same("the most on an even floor", y.chairOf(0, 3), 800);
        y.level(0, 3, 50);
        check.same("the most of all", y.chairOf(0, 3), 850);
    }

    @Says(sentence = "The height of the seat is the sum of the lengths of the legs, divided by 4.")
    static void heightsOfSeats(Check check) {
        check.same("the least", Offices.withLegs(100, 100, 100, 100).chairOf(0, 4), 100);
        check.same("the most", Offices.withLegs(900, 900, 900, 900).chairOf(0, 4), 900);
        check.same("one leg alone", Offices.withLegs(100, 100, 100, 103).chairOf(0, 4), 100);
        check.same("one leg longer by 4", Offices.withLegs(104, 100, 100, 100).chairOf(0, 4), 101);
        ChairStamps x = Offices.withLegs(450, 450, 450, 450);
        x.floor(50, 50, 50, 50);
        x.bring(0, 1, 0);
        check.same("lengths, not reaches", x.chairOf(0, 4), 450);
    }

    @Says(sentence = "When any three legs stand, the gap under the fourth one is how far it is from its spot."
        + " (This is the same for each of the four, and is the wobble.)")
    static void bothWaysAgree(Check check) {
        int[][] legs = {{450, 450, 450, 450}, {451, 450, 450, 450}, {450, 451, 450, 450}, {900, 100, 900, 100},
            {100, 900, 100, 900}, {100, 200, 300, 401}, {900, 300, 100, 700}};
        int[] due = {0, 1, 1, 1600, 1600, 201, 0};
        for (int i = 0; i < legs.length; i++) {
            ChairStamps x = Offices.withLegs(legs[i]);
            check.same("by sums, the legs " + i, x.wobble(0, 0), due[i]);
            check.same("by gaps, the legs " + i, x.wobble(0, 1), due[i]);
            x.floor(0, 50, 0, 50);
            x.bring(0, 1, 1);
            check.same("by gaps on a floor, the legs " + i, x.wobble(0, 1), x.wobble(0, 0));
        }
    }

    private static int idle(int... legs) {
        return Offices.withLegs(legs).chairOf(0, 5);
    }

    @Says(sentence = "A leg is idle if it is one of the two with the lesser sum of reaches of r0 + r2 and r1 + r3,"
        + " and of these the one with the lesser reach")
    static void theIdleLeg(Check check) {
        check.same("the leg 0 shorter by 1", idle(449, 450, 450, 450), 0);
        check.same("the leg 1 shorter by 1", idle(450, 449, 450, 450), 1);
        check.same("the leg 2 shorter by 1", idle(450, 450, 449, 450), 2);
        check.same("the leg 3 shorter by 1", idle(450, 450, 450, 449), 3);
        check.same("the shortest leg is not of the two", idle(400, 449, 500, 450), 1);
        check.same("the longest leg is of the two", idle(500, 460, 419, 460), 2);
        ChairStamps x = Offices.withLegs(450, 450, 450, 450);
        x.level(0, 3, 1);
        check.same("by reaches, not lengths", x.chairOf(0, 5), 3);
        x.bring(0, 0, 1);
        check.same("by the spots on which the legs stand", x.chairOf(0, 5), 2);
    }

    @Says(sentence = "of like ones the one with the lower number")
    static void likeIdleLegs(Check check) {
        check.same("the legs 0 and 2 alike", idle(449, 450, 449, 450), 0);
        check.same("the legs 1 and 3 alike", idle(450, 449, 450, 449), 1);
        check.same("the leg 2 less by 1", idle(449, 450, 448, 450), 2);
        check.same("the leg 3 less by 1", idle(450, 449, 450, 448), 3);
    }

    @Says(sentence = "if both sums are alike, no leg is idle.")
    static void noIdleLeg(Check check) {
        check.same("like legs", idle(450, 450, 450, 450), -1);
        check.same("unlike legs, like sums", idle(450, 440, 430, 440), -1);
        check.same("one sum less by 1", idle(449, 440, 430, 440), 2);
        check.same("one sum more by 1", idle(451, 440, 430, 440), 1);
    }
}
