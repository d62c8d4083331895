/** Promises 24 to 28: bestTurn, bestSaw, failsIn, bestFloor, sound. */
public final class EdgesOfWouldBeTest {
    public static void main(String[] args) {
        Edges.run(EdgesOfWouldBeTest.class);
    }

    @Says(sentence = "---- what would be; these and all following methods up to the save slots change nothing.")
    static void theyChangeNothing(Check check) {
        check.changesNothing("bestTurn", Offices::full, x -> x.bestTurn(9, 3, 0));
        check.changesNothing("bestSaw", () -> Offices.withLegs(460, 450, 450, 450), x -> x.bestSaw(0));
        check.changesNothing("failsIn", Offices::full, x -> x.failsIn(0, 200));
        check.changesNothing("bestFloor", Offices::full, x -> x.bestFloor(9));
        check.changesNothing("sound", Offices::full, ChairStamps::sound);
        check.changesNothing("runScript", Offices::full, x -> x.runScript(3, 100005400001600900L));
        check.changesNothing("simulate", Offices::full, x -> x.simulate(7, 60));
    }

    private static void turn(Check check, ChairStamps x, int f, int quarters, int wobble) {
        check.same("the quarters on the floor " + f, x.bestTurn(0, f, 0), quarters);
        check.same("the wobble on the floor " + f, x.bestTurn(0, f, 1), wobble);
    }

    @Says(promise = 24, sentence = "Finds how a chair is best turned on a floor.")
    static void whereItDoesNotStand(Check check) {
        ChairStamps x = Offices.withLegs(450, 450, 450, 460);
        x.floor(0, 0, 10, 0);
        turn(check, x, 1, 3, 0);
        x.bring(0, 1, 1);
        turn(check, x, 1, 3, 0);
        turn(check, x, 0, 0, 10);
        check.same("as it is then", x.bring(0, 1, x.bestTurn(0, 1, 0)), x.bestTurn(0, 1, 1));
        ChairStamps y = Offices.full();
        y.shim(9, 2, 50);
        check.same("the last chair on the floor 2", y.bestTurn(9, 2, 0), 0);
        check.same("its wobble", y.bestTurn(9, 2, 1), 50);
        y.level(2, 0, 0);
        check.same("the last chair on one high spot", y.bestTurn(9, 2, 0), 0);
        y.level(2, 0, 50);
        y.level(2, 2, 0);
        check.same("the last chair on another high spot", y.bestTurn(9, 2, 0), 2);
    }

    @Says(promise = 24, sentence = "what: 0: the quarters, 0 to 3, with which it wobbles least there")
    static void wobblesLeast(Check check) {
        int[][] spots = {{0, 0, 0, 10}, {10, 0, 0, 0}, {0, 10, 0, 0}, {0, 0, 10, 0}};
        for (int q = 0; q <= 3; q++) {
            ChairStamps x = Offices.withLegs(450, 450, 450, 460);
            x.floor(spots[q][0], spots[q][1], spots[q][2], spots[q][3]);
            turn(check, x, 1, q, 0);
        }
        ChairStamps y = Offices.withLegs(464, 440, 440, 460);
        y.floor(22, 20, 0, 0);
        // By 0 it wobbles by 2 and leans by 40; by 1 it wobbles by 6 and leans by 6.
        turn(check, y, 1, 0, 2);
    }

    @Says(promise = 24, sentence = "of several those with which it leans least")
    static void leansLeast(Check check) {
        int[][] spots = {{3, 3, 0, 0}, {0, 3, 3, 0}, {0, 0, 3, 3}, {3, 0, 0, 3}};
        for (int q = 0; q <= 3; q++) {
            ChairStamps x = Offices.withLegs(453, 453, 450, 450);
            x.floor(spots[q][0], spots[q][1], spots[q][2], spots[q][3]);
            // However it is turned it does not wobble; by q it does not lean either.
            turn(check, x, 1, q, 0);
        }
    }

    @Says(promise = 24, sentence = "of several of those the fewest")
    static void fewestQuarters(Check check) {
        ChairStamps x = Offices.withLegs(450, 450, 450, 450);
        x.floor(9, 0, 0, 0);
        turn(check, x, 0, 0, 0);
        turn(check, x, 1, 0, 9);
        int[][] spots = {{6, 6, 0, 0}, {0, 6, 6, 0}, {0, 0, 6, 6}, {6, 0, 0, 6}};
        int[] due = {0, 1, 2, 0};
        for (int i = 0; i <= 3; i++) {
            ChairStamps y = Offices.withLegs(456, 450, 450, 450);
            y.floor(spots[i][0], spots[i][1], spots[i][2], spots[i][3]);
            // It always wobbles by 6; with its leg 0 on either high spot it leans by 6, else by 12.
            turn(check, y, 1, due[i], 6);
        }
        ChairStamps z = Offices.withLegs(459, 450, 459, 450);
        z.floor(0, 9, 0, 9);
        turn(check, z, 1, 1, 0);
    }

    @Says(promise = 24, sentence = "1: that wobble")
    static void thatWobble(Check check) {
        ChairStamps x = Offices.withLegs(900, 100, 900, 100);
        x.floor(50, 0, 50, 0);
        turn(check, x, 0, 0, 1600);
        turn(check, x, 1, 0, 1500);
        ChairStamps y = Offices.withLegs(100, 900, 100, 900);
        y.floor(50, 0, 50, 0);
        turn(check, y, 1, 1, 1500);
    }

    @Says(promise = 24, sentence = "Throws IndexOutOfBoundsException if there is no such chair or floor")
    static void turnOfNoChair(Check check) {
        check.range(Check.INDEX, Offices::busy, 0, 1, (x, c) -> x.bestTurn(c, 1, 0));
        check.range(Check.INDEX, Offices::fullOfChairs, 0, 9, (x, c) -> x.bestTurn(c, 0, 1));
        check.range(Check.INDEX, Offices::busy, 0, 1, (x, f) -> x.bestTurn(1, f, 0));
        check.range(Check.INDEX, Offices::fullOfFloors, 0, 3, (x, f) -> x.bestTurn(0, f, 1));
        check.refusedLeaving("chair and what", Check.INDEX, Offices::busy, x -> x.bestTurn(2, 0, 2));
        check.refusedLeaving("floor and what", Check.INDEX, Offices::busy, x -> x.bestTurn(0, 2, -1));
    }

    @Says(promise = 24, sentence = "Throws IllegalArgumentException if what is neither 0 nor 1")
    static void turnOfNoWhat(Check check) {
        check.range(Check.ARGUMENT, Offices::busy, 0, 1, (x, what) -> x.bestTurn(1, 1, what));
    }

    private static int sawn(int... legs) {
        return Offices.withLegs(legs).bestSaw(0);
    }

    @Says(promise = 25, sentence = "Finds the leg that is best sawn, so that a chair does not wobble where it is.")
    static void whereItIs(Check check) {
        ChairStamps x = Offices.withLegs(450, 450, 450, 450);
        x.floor(0, 0, 5, 0);
        check.same("on the even floor", x.bestSaw(0), -1);
        x.bring(0, 1, 0);
        // The leg 2 stands high; sawing 1 or 3 makes it lean by 5.
        check.same("on the other", x.bestSaw(0), 1);
        x.saw(0, 1, x.wobble(0, 0));
        check.same("it does not wobble then", x.wobble(0, 0), 0);
        x.bring(0, 1, 1);
        // Now the reaches are 450, 440, 450, 450.
        check.same("turned", x.bestSaw(0), 0);
        ChairStamps y = Offices.fullOfChairs();
        y.shim(9, 3, 7);
        check.same("the last chair", y.bestSaw(9), 3);
        check.same("the chair before it", y.bestSaw(8), -1);
    }

    @Says(promise = 25, sentence = "Returns of the legs that could be sawn by the wobble")
    static void couldBeSawn(Check check) {
        check.same("just the leg 0", sawn(101, 100, 100, 100), 0);
        check.same("just the leg 1", sawn(100, 101, 100, 100), 1);
        check.same("just the leg 2", sawn(100, 100, 101, 100), 2);
        check.same("just the leg 3", sawn(100, 100, 100, 101), 3);
        check.same("119 by 19", sawn(119, 100, 100, 100), 0);
        check.same("118 by 19", sawn(118, 100, 101, 100), -1);
        check.same("900 by 800", sawn(900, 900, 900, 100), 0);
        ChairStamps x = Offices.withLegs(900, 900, 900, 100);
        x.level(0, 3, 1);
        check.same("900 by 801", x.bestSaw(0), -1);
    }

    @Says(promise = 25, sentence = "and with which the chair would not wobble then")
    static void wouldNotWobble(Check check) {
        // With the leg 0 sawn by 10 it would lean by 50 alone, but wobble by 20.
        check.same("of the greater sum", sawn(500, 480, 440, 470), 1);
        check.same("the odd legs", sawn(450, 460, 450, 450), 1);
        check.same("the even legs", sawn(450, 450, 460, 450), 2);
    }

    @Says(promise = 25, sentence = "the one with which it would lean least")
    static void wouldLeanLeast(Check check) {
        check.same("the leg 0", sawn(455, 450, 452, 450), 0);
        check.same("the leg 1", sawn(450, 455, 450, 452), 1);
        check.same("the leg 2", sawn(452, 450, 455, 450), 2);
        check.same("the leg 3", sawn(450, 452, 450, 455), 3);
        ChairStamps x = Offices.withLegs(460, 450, 470, 452);
        x.level(0, 2, 20);
        // The reaches are 460, 450, 450, 452, so the leg 0 leaves a lean of 2, though 2 is longer.
        check.same("by reaches", x.bestSaw(0), 0);
    }

    @Says(promise = 25, sentence = "of several the lowest")
    static void lowestLeg(Check check) {
        check.same("the even legs alike", sawn(460, 450, 460, 450), 0);
        check.same("the odd legs alike", sawn(450, 460, 450, 460), 1);
        check.same("unlike legs, like leans", sawn(450, 400, 451, 500), 0);
    }

    @Says(promise = 25, sentence = "NONE if there is none")
    static void noneCouldBeSawn(Check check) {
        check.same("both too short by 1", sawn(101, 100, 101, 100), ChairStamps.NONE);
        check.same("both far too short", sawn(199, 100, 199, 100), ChairStamps.NONE);
        check.same("one just long enough", sawn(100, 115, 100, 100), 1);
    }

    @Says(promise = 25, sentence = "or it does not wobble.")
    static void noWobble(Check check) {
        check.same("like legs", sawn(450, 450, 450, 450), ChairStamps.NONE);
        check.same("like sums", sawn(460, 450, 440, 450), ChairStamps.NONE);
        check.same("wobbles by 1", sawn(450, 450, 450, 449), 0);
    }

    @Says(promise = 25, sentence = "Throws IndexOutOfBoundsException if there is no such chair")
    static void sawOfNoChair(Check check) {
        check.range(Check.INDEX, Offices::busy, 0, 1, ChairStamps::bestSaw);
        check.range(Check.INDEX, Offices::fullOfChairs, 0, 9, ChairStamps::bestSaw);
        check.refusedLeaving("no chair at all", Check.INDEX, ChairStamps::new, x -> x.bestSaw(0));
    }

    @Says(promise = 26, sentence = "Tells after how many sitters a chair fails.")
    static void sittersToFail(Check check) {
        for (int weight : new int[] {60, 120, 200}) {
            ChairStamps x = Offices.withLegs(450, 450, 450, 448);
            int sitters = x.failsIn(0, weight);
            for (int i = 0; i < sitters; i++) {
                check.same("before the sitter " + i, x.chairOf(0, 7), 0);
                x.sit(0, weight);
            }
            check.same("behind " + sitters + " sitters fails", x.chairOf(0, 7) == 0 ? 0 : 1, 1);
        }
        ChairStamps y = Offices.fullOfChairs();
        check.same("the last chair, of 449", y.failsIn(9, 60), 50);
        check.same("the chair before it, of 448", y.failsIn(8, 60), 49);
    }

    @Says(promise = 26, sentence = "weight: 1 to 200: of each of them")
    static void weightOfEach(Check check) {
        ChairStamps x = Offices.withLegs(450, 450, 450, 450);
        int[] weights = {1, 59, 60, 119, 120, 179, 180, 200};
        int[] due = {-1, -1, 51, 51, 26, 26, 17, 17};
        for (int i = 0; i < weights.length; i++) {
            check.same("the weight " + weights[i], x.failsIn(0, weights[i]), due[i]);
        }
    }

    private static int failsIn(int leastSeat, int weight) {
        ChairStamps x = Offices.withLegs(450, 450, 450, 450);
        x.bound(0, 0, leastSeat);
        return x.failsIn(0, weight);
    }

    @Says(promise = 26, sentence = "Returns how many")
    static void howMany(Check check) {
        check.same("one", failsIn(450, 60), 1);
        check.same("two", failsIn(449, 60), 2);
        check.same("one, by more", failsIn(448, 200), 1);
        check.same("99", failsIn(352, 60), 99);
    }

    @Says(promise = 26, sentence = "0 if it fails now")
    static void failsNow(Check check) {
        check.same("too low", failsIn(451, 1), 0);
        check.same("its wobble", Offices.withLegs(450, 450, 450, 445).failsIn(0, 200), 0);
        check.same("its lean", Offices.withLegs(450, 450, 437, 437).failsIn(0, 200), 0);
        check.same("too high, though not behind a sitter", Offices.withLegs(501, 501, 501, 501).failsIn(0, 60), 0);
    }

    @Says(promise = 26, sentence = "up to 100")
    static void upTo100(Check check) {
        check.same("100", failsIn(351, 60), 100);
    }

    @Says(promise = 26, sentence = "NONE if it does not by then.")
    static void notUpTo100(Check check) {
        check.same("101", failsIn(350, 60), ChairStamps.NONE);
        check.same("never, too light", failsIn(450, 59), ChairStamps.NONE);
        ChairStamps x = Offices.withLegs(103, 103, 103, 103);
        x.bound(0, 0, 100);
        check.same("never, as short as can be", x.failsIn(0, 200), ChairStamps.NONE);
        x.bound(0, 0, 101);
        check.same("just as short as can be", x.failsIn(0, 200), 1);
    }

    @Says(promise = 26, sentence = "Throws IndexOutOfBoundsException if there is no such chair")
    static void failsInOfNoChair(Check check) {
        check.range(Check.INDEX, Offices::busy, 0, 1, (x, c) -> x.failsIn(c, 1));
        check.range(Check.INDEX, Offices::fullOfChairs, 0, 9, (x, c) -> x.failsIn(c, 200));
        check.refusedLeaving("and the weight", Check.INDEX, Offices::busy, x -> x.failsIn(2, 0));
        check.refusedLeaving("and the weight", Check.INDEX, ChairStamps::new, x -> x.failsIn(0, 201));
    }

    @Says(promise = 26, sentence = "Throws IllegalArgumentException if weight is out of range")
    static void failsInOfNoWeight(Check check) {
        check.range(Check.ARGUMENT, Offices::busy, 1, 200, (x, weight) -> x.failsIn(1, weight));
        check.refusedLeaving("though it fails now", Check.ARGUMENT, () -> Offices.withLegs(100, 100, 100, 100),
            x -> x.failsIn(0, 0));
    }

    @Says(promise = 27, sentence = "Finds the floor that suits a chair best.")
    static void bestFloor(Check check) {
        ChairStamps x = Offices.withLegs(450, 450, 450, 450);
        check.same("of one floor", x.bestFloor(0), 0);
        x.level(0, 0, 9);
        check.same("of one floor that is not even", x.bestFloor(0), 0);
        x.floor(8, 0, 0, 0);
        check.same("of two floors", x.bestFloor(0), 1);
        x.bring(0, 1, 3);
        check.same("wherever it stands", x.bestFloor(0), 1);
        ChairStamps y = Offices.full();
        y.shim(9, 0, 20);
        // It wobbles by 20, 19, 80 and 18 on the four floors.
        check.same("of the last chair", y.bestFloor(9), 3);
        y.level(0, 3, 20);
        check.same("of the last chair then", y.bestFloor(9), 0);
    }

    @Says(promise = 27, sentence = "Returns the floor with the least wobble by bestTurn()")
    static void leastWobble(Check check) {
        for (int best = 0; best <= 3; best++) {
            ChairStamps x = Offices.withLegs(450, 450, 450, 460);
            for (int f = 0; f <= 3; f++) {
                if (f > 0) {
                    x.floor(0, 0, 0, 0);
                }
                // Turned by 3 the long leg stands on the spot 2.
                x.level(f, 2, f == best ? 10 : 9);
            }
            check.same("the floor", x.bestFloor(0), best);
            check.same("its wobble", x.bestTurn(0, best, 1), 0);
        }
        ChairStamps y = Offices.withLegs(450, 450, 450, 460);
        y.level(0, 2, 10);
        y.floor(0, 0, 0, 9);
        // On the floor 0 it does not wobble if it is turned by 3, on the floor 1 by 1 if it is not.
        check.same("each floor with its own turn", y.bestFloor(0), 0);
    }

    @Says(promise = 27, sentence = "of several the lowest.")
    static void lowestFloor(Check check) {
        ChairStamps x = Offices.withLegs(450, 450, 450, 450);
        x.floor(0, 0, 0, 0);
        x.floor(1, 1, 1, 1);
        x.floor(50, 50, 0, 0);
        check.same("all alike", x.bestFloor(0), 0);
        x.level(0, 0, 1);
        check.same("the last three alike", x.bestFloor(0), 1);
        x.level(1, 3, 1);
        check.same("the last two alike", x.bestFloor(0), 2);
        x.level(2, 3, 2);
        check.same("the last one", x.bestFloor(0), 3);
        x.level(3, 0, 49);
        check.same("all alike again", x.bestFloor(0), 0);
    }

    @Says(promise = 27, sentence = "Throws IndexOutOfBoundsException if there is no such chair")
    static void floorOfNoChair(Check check) {
        check.range(Check.INDEX, Offices::busy, 0, 1, ChairStamps::bestFloor);
        check.range(Check.INDEX, Offices::fullOfChairs, 0, 9, ChairStamps::bestFloor);
        check.refusedLeaving("no chair at all", Check.INDEX, ChairStamps::new, x -> x.bestFloor(0));
    }

    @Says(promise = 28, sentence = "Tells which chairs would be stamped if all were tested now.")
    static void wouldBeStamped(Check check) {
        ChairStamps x = Offices.full();
        x.level(0, 1, 5);
        x.bring(4, 3, 0);
        int sound = x.sound();
        for (int c = 0; c < 10; c++) {
            x.test(c);
            check.same("the chair " + c, x.chairOf(c, 6), sound >> c & 1);
        }
        check.same("the same when they are stamped", x.sound(), sound);
    }

    @Says(promise = 28, sentence = "Returns those that do not fail, as a set (bit c for the chair c).")
    static void setOfChairs(Check check) {
        ChairStamps x = new ChairStamps();
        check.same("no chair", x.sound(), 0);
        for (int c = 0; c < 10; c++) {
            x.chair(0, 450);
            check.same("all chairs", x.sound(), (1 << c + 1) - 1);
        }
        for (int c = 0; c < 10; c++) {
            x.saw(c, 0, 5);
            check.same("all but the chair " + c, x.sound(), 1023 - (1 << c));
            x.shim(c, 0, 5);
        }
        x.bound(0, 0, 451);
        check.same("none", x.sound(), 0);
        for (int c = 0; c < 10; c++) {
            x.shim(c, 3, 4);
            check.same("the chair " + c + " alone", x.sound(), 1 << c);
            x.saw(c, 3, 4);
        }
        ChairStamps y = Offices.withLegs(450, 450, 450, 450);
        y.chair(0, 450);
        check.same("two chairs", y.sound(), 3);
        y.undo();
        check.same("the other taken back", y.sound(), 1);
    }
}
