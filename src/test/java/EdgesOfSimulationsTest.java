import java.math.BigInteger;

/** Promise 30: simulate. */
public final class EdgesOfSimulationsTest {
    public static void main(String[] args) {
        Edges.run(EdgesOfSimulationsTest.class);
    }

    /** The next turn is the test of a chair. */
    private static Turns.Wanted test(int c) {
        return (kind, q) -> kind >= 8 && kind <= 10 && q % 10 == c;
    }

    /** Any wobble or lean at all makes a chair of this guild fail. */
    private static void strict(ChairStamps x, int g) {
        x.bound(g, 2, 0);
        x.bound(g, 3, 0);
    }

    private static final int STAMPED = 10100;
    private static final int FAILED = 0;

    @Says(promise = 30, sentence = "Simulates m turns on a copy of the state.")
    static void onACopy(Check check) {
        check.changesNothing("60 turns", Offices::full, x -> x.simulate(1, 60));
        check.changesNothing("a turn on no chair", ChairStamps::new, x -> x.simulate(1, 1));
        ChairStamps x = Offices.full();
        int first = x.simulate(42, 60);
        check.same("the same again", x.simulate(42, 60), first);
    }

    @Says(promise = 30, sentence = "A long x starts as the seed. Each turn first replaces x by x * 6364136223846793005L"
        + " + 1442695040888963407L (with long overflow), and r = (int) (x >>> 33) is computed. q is r / 16.")
    static void theTurns(Check check) {
        BigInteger factor = new BigInteger("6364136223846793005");
        BigInteger added = new BigInteger("1442695040888963407");
        BigInteger all = BigInteger.ONE.shiftLeft(64);
        long[] seeds = {0, 1, -1, 2, Long.MAX_VALUE, Long.MIN_VALUE, 1234567890123456789L, 1 << 20};
        for (long seed : seeds) {
            ChairStamps x = Offices.full();
            BigInteger state = BigInteger.valueOf(seed).mod(all);
            for (int i = 0; i < 60; i++) {
                state = state.multiply(factor).add(added).mod(all);
                int r = state.shiftRight(33).intValueExact();
                Turns.byCall(x, r % 16, r / 16);
                int given = x.about(4) - Offices.full().about(4);
                int voided = x.about(5) - Offices.full().about(5);
                int due = 10000 * given + 100 * x.about(2) + voided;
                check.same(i + 1 + " turns of " + seed, Offices.full().simulate(seed, i + 1), due);
            }
        }
    }

    /** A chair comes and is tested, where just one guild lets just one length pass. */
    private static int chairComes(int kind, int q, int guild, int length) {
        ChairStamps x = new ChairStamps();
        for (int g = 0; g <= 3; g++) {
            x.bound(g, 0, g == guild ? length : 900);
            x.bound(g, 1, length);
        }
        return x.simulate(Turns.seed(kind, q, test(0)), 2);
    }

    @Says(promise = 30, sentence = "By r % 16: 0 and 1: chair(q % 4, 400 + q / 4 % 101).")
    static void turnChair(Check check) {
        for (int kind = 0; kind <= 1; kind++) {
            for (int guild = 0; guild <= 3; guild++) {
                check.same("the least length", chairComes(kind, guild, guild, 400), STAMPED);
                check.same("the greatest length", chairComes(kind, 400 + guild, guild, 500), STAMPED);
                check.same("round to the least", chairComes(kind, 404 + guild, guild, 400), STAMPED);
                check.same("a length between", chairComes(kind, 4 * 49 + guild, guild, 449), STAMPED);
                check.same("not that length", chairComes(kind, 4 * 49 + guild, guild, 450), FAILED);
                check.same("not that guild", chairComes(kind, 4 * 49 + guild, (guild + 1) % 4, 449), FAILED);
            }
        }
        ChairStamps x = Offices.withLegs(450, 450, 450, 450);
        x.test(0);
        // Only a floor that was laid could be levelled, or a chair be brought to it.
        Turns.Wanted bring = (kind, p) -> kind == 7 && p % 10 == 0 && p / 16 % 4 == 1;
        check.same("no floor is laid by it", x.simulate(Turns.seed(1, 0, bring), 2), 100);
        check.same("the greatest q", chairComes(1, (1 << 27) - 1, 3, 400 + ((1 << 27) - 1) / 4 % 101), STAMPED);
    }

    /** A floor is laid, a chair with legs longer by so much is brought to it, and tested. */
    private static int floorLaid(int q, int... longer) {
        ChairStamps x = new ChairStamps();
        x.chair(0, 450);
        for (int k = 0; k <= 3; k++) {
            if (longer[k] > 0) {
                x.shim(0, k, longer[k]);
            }
        }
        strict(x, 0);
        Turns.Wanted bring = (kind, p) -> kind == 7 && p % 10 == 0 && p / 16 % 4 == 1 && p / 64 % 4 == 0;
        return x.simulate(Turns.seed(2, q, bring, test(0)), 3);
    }

    @Says(promise = 30, sentence = "2: floor(q % 9, q / 9 % 9, q / 81 % 9, q / 729 % 9).")
    static void turnFloor(Check check) {
        check.same("the spot 0, the highest", floorLaid(8, 8, 0, 0, 0), STAMPED);
        check.same("the spot 1, the lowest", floorLaid(9, 0, 1, 0, 0), STAMPED);
        check.same("the spot 1, the highest", floorLaid(72, 0, 8, 0, 0), STAMPED);
        check.same("the spot 2, the lowest", floorLaid(81, 0, 0, 1, 0), STAMPED);
        check.same("the spot 2, the highest", floorLaid(648, 0, 0, 8, 0), STAMPED);
        check.same("the spot 3, the lowest", floorLaid(729, 0, 0, 0, 1), STAMPED);
        check.same("the spot 3, the highest", floorLaid(5832, 0, 0, 0, 8), STAMPED);
        check.same("just not the spot 3", floorLaid(728, 8, 8, 8, 0), STAMPED);
        check.same("all round to 0", floorLaid(6561, 0, 0, 0, 0), STAMPED);
        check.same("four heights", floorLaid(1 + 2 * 9 + 3 * 81 + 4 * 729, 1, 2, 3, 4), STAMPED);
        check.same("other heights", floorLaid(1 + 2 * 9 + 3 * 81 + 4 * 729, 1, 2, 4, 3), FAILED);
    }

    /** On a floor a spot is levelled, under a chair with a leg longer by so much, that is tested. */
    private static int levelled(int q, int f, int k, int longer) {
        ChairStamps x = new ChairStamps();
        x.floor(0, 0, 0, 0);
        x.floor(0, 0, 0, 0);
        x.floor(0, 0, 0, 0);
        x.chair(0, 450);
        x.shim(0, k, longer);
        x.level(f, k, 20);
        x.bring(0, f, 0);
        strict(x, 0);
        return x.simulate(Turns.seed(3, q, test(0)), 2);
    }

    @Says(promise = 30, sentence = "3: level(q % 4, q / 4 % 4, q / 16 % 12).")
    static void turnLevel(Check check) {
        for (int i = 0; i < 16; i++) {
            check.same("the height 1", levelled(16 + 4 * (i / 4) + i % 4, i % 4, i / 4, 1), STAMPED);
            check.same("the greatest height", levelled(16 * 11 + 4 * (i / 4) + i % 4, i % 4, i / 4, 11), STAMPED);
            check.same("round to 1", levelled(16 * 13 + 4 * (i / 4) + i % 4, i % 4, i / 4, 1), STAMPED);
            check.same("another height", levelled(16 * 12 + 4 * (i / 4) + i % 4, i % 4, i / 4, 12), FAILED);
        }
        ChairStamps x = Offices.withLegs(450, 450, 450, 450);
        x.level(0, 0, 1);
        strict(x, 0);
        check.same("the height 0", x.simulate(Turns.seed(3, 0, test(0)), 2), STAMPED);
        check.same("round to 0", x.simulate(Turns.seed(3, 16 * 12, test(0)), 2), STAMPED);
    }

    /** A leg of one of ten chairs is changed, which has another length by so much, and the chair is tested. */
    private static int legChanged(int kind, int c, int k, int longer, int n) {
        ChairStamps x = new ChairStamps();
        for (int i = 0; i < 10; i++) {
            x.chair(0, 450);
        }
        if (longer > 0) {
            x.shim(c, k, longer);
        } else {
            x.saw(c, k, -longer);
        }
        strict(x, 0);
        return x.simulate(Turns.seed(kind, Turns.q(c, k, n - 1, 9), test(c)), 2);
    }

    @Says(promise = 30, sentence = "4 and 5: saw(q % 10, q / 16 % 4, 1 + q / 64 % 9).")
    static void turnSaw(Check check) {
        for (int kind = 4; kind <= 5; kind++) {
            for (int i = 0; i < 40; i++) {
                check.same("the least", legChanged(kind, i / 4, i % 4, 1, 1), STAMPED);
                check.same("the most", legChanged(kind, i / 4, i % 4, 9, 9), STAMPED);
                check.same("too little", legChanged(kind, i / 4, i % 4, 9, 8), FAILED);
            }
        }
        ChairStamps x = Offices.withLegs(450, 451, 450, 450);
        strict(x, 0);
        // 600 is for the chair 0 and the leg 1; 600 / 64 is 9, and 9 % 9 is 0.
        check.same("round to the least", x.simulate(Turns.seed(4, 600, test(0)), 2), STAMPED);
    }

    @Says(promise = 30, sentence = "6: shim(q % 10, q / 16 % 4, 1 + q / 64 % 9).")
    static void turnShim(Check check) {
        for (int i = 0; i < 40; i++) {
            check.same("the least", legChanged(6, i / 4, i % 4, -1, 1), STAMPED);
            check.same("the most", legChanged(6, i / 4, i % 4, -9, 9), STAMPED);
            check.same("too little", legChanged(6, i / 4, i % 4, -9, 8), FAILED);
        }
    }

    @Says(promise = 30, sentence = "7: bring(q % 10, q / 16 % 4, q / 64 % 4).")
    static void turnBring(Check check) {
        for (int i = 0; i < 160; i++) {
            int c = i / 16;
            int f = i / 4 % 4;
            int q = i % 4;
            ChairStamps x = Offices.full();
            for (int j = 0; j < 16; j++) {
                x.level(j / 4, j % 4, j == 4 * f + q ? 9 : 0);
            }
            x.bring(c, (f + 1) % 4, 0);
            strict(x, x.chairOf(c, 0));
            x.shim(c, 0, 9);
            // The long leg 0 stands on the only high spot then.
            int before = x.simulate(Turns.seed(8, 10 + c), 1);
            int after = x.simulate(Turns.seed(7, Turns.q(c, f, q, 4), test(c)), 2);
            // The legs of the chair 1 are worn, and not alike.
            check.same("to the floor " + f + ", turned by " + q, after - before, c == 1 ? 0 : 10100);
        }
    }

    /** All of ten chairs are too low but one; it is tested. */
    private static int tested(int kind, int sound, int c) {
        ChairStamps x = new ChairStamps();
        for (int i = 0; i < 10; i++) {
            x.chair(0, i == sound ? 450 : 399);
        }
        return x.simulate(Turns.first(16 * (70 + c) + kind), 1);
    }

    @Says(promise = 30, sentence = "8 to 10: test(q % 10).")
    static void turnTest(Check check) {
        for (int kind = 8; kind <= 10; kind++) {
            for (int c = 0; c < 10; c++) {
                check.same("the chair " + c, tested(kind, c, c), STAMPED);
                check.same("another chair", tested(kind, c, (c + 1) % 10), FAILED);
            }
        }
    }

    /** A bound is changed for a stamped chair that wobbles and leans by so much. */
    private static int boundChanged(int guild, int legLonger, int q) {
        ChairStamps x = new ChairStamps();
        x.chair(guild, 450);
        x.bound(guild, 2, 100);
        x.bound(guild, 3, 200);
        x.shim(0, 0, legLonger);
        x.set(1, 1);
        x.test(0);
        return x.simulate(Turns.first(16 * q + 11), 1);
    }

    @Says(promise = 30, sentence = "11: bound(q % 4, 2 + q / 4 % 2, q / 8 % 30).")
    static void turnBound(Check check) {
        for (int g = 0; g <= 3; g++) {
            for (int k = 0; k <= 1; k++) {
                int q = g + 4 * k;
                check.same("the greatest value", boundChanged(g, 29, q + 8 * 29), 100);
                check.same("above the greatest value", boundChanged(g, 30, q + 8 * 29), 1);
                check.same("round to 0", boundChanged(g, 1, q + 8 * 30), 1);
                check.same("round to 1", boundChanged(g, 1, q + 8 * 31), 100);
                check.same("the value 0", boundChanged(g, 1, q), 1);
                check.same("another guild's", boundChanged((g + 1) % 4, 1, q), 100);
            }
        }
        check.same("nobody sits on the chair 0", boundChanged(0, 5, 40), 100);
        ChairStamps x = Offices.withLegs(450, 450, 449, 449);
        x.test(0);
        check.same("the lean is not the wobble", x.simulate(Turns.first(11), 1), 100);
        check.same("the lean", x.simulate(Turns.first(16 * 4 + 11), 1), 1);
    }

    /** Somebody sits on one of ten chairs, of which one is stamped. */
    private static int satDown(int kind, int stamped, int hardness, int q) {
        ChairStamps x = new ChairStamps();
        for (int c = 0; c < 10; c++) {
            x.chair(0, 450);
        }
        x.test(stamped);
        x.set(1, hardness);
        return x.simulate(Turns.first(16 * q + kind), 1);
    }

    private static int sitterOf(int c, int weight) {
        for (int q = 16 * (weight - 1); q < 16 * weight; q++) {
            if (q % 10 == c) {
                return q;
            }
        }
        return 0;
    }

    @Says(promise = 30, sentence = "Otherwise: sit(q % 10, 1 + q / 16 % 200).")
    static void turnSit(Check check) {
        for (int kind = 12; kind <= 15; kind++) {
            for (int c = 0; c < 10; c++) {
                check.same("the greatest weight", satDown(kind, c, 200, sitterOf(c, 200)), 1);
                check.same("one less", satDown(kind, c, 200, sitterOf(c, 199)), 100);
                check.same("the least weight", satDown(kind, c, 1, sitterOf(c, 1)), 1);
                check.same("the least weight on hard wood", satDown(kind, c, 2, sitterOf(c, 1)), 100);
                check.same("round to the least weight", satDown(kind, c, 2, sitterOf(c, 201)), 100);
                check.same("another chair", satDown(kind, c, 1, sitterOf((c + 1) % 10, 200)), 100);
            }
        }
    }

    @Says(promise = 30, sentence = "What would throw an exception is left out.")
    static void leftOut(Check check) {
        ChairStamps x = Offices.withLegs(108, 450, 450, 450);
        x.chair(0, 450);
        x.test(1);
        check.same("a level of no floor", x.simulate(Turns.first(16 * 19 + 3), 1), 100);
        for (int kind = 4; kind <= 6; kind++) {
            check.same("a leg of no chair", x.simulate(Turns.first(16 * 2 + kind), 1), 100);
        }
        check.same("a leg that would be too short", x.simulate(Turns.first(16 * Turns.q(0, 0, 8, 9) + 4), 1), 100);
        check.same("a chair brought to no floor", x.simulate(Turns.first(16 * Turns.q(1, 1, 1, 4) + 7), 1), 100);
        check.same("no chair brought", x.simulate(Turns.first(16 * 2 + 7), 1), 100);
        check.same("no chair tested", x.simulate(Turns.first(16 * 9 + 8), 1), 100);
        check.same("nobody sits", x.simulate(Turns.first(16 * 9 + 15), 1), 100);
        check.same("nothing on no chair", new ChairStamps().simulate(Turns.first(16 * 9 + 15), 1), 0);
        ChairStamps y = Offices.full();
        check.same("an eleventh chair", y.simulate(Turns.first(0), 1), 100);
        check.same("a fifth floor", y.simulate(Turns.first(2), 1), 100);
        // Behind a turn that is left out the next one is done.
        check.same("then a test", y.simulate(Turns.seed(0, 0, test(9)), 2), 10200);
        ChairStamps z = Offices.withLegs(900, 900, 900, 900);
        z.bound(0, 1, 900);
        z.test(0);
        check.same("a leg that would be too long", z.simulate(Turns.first(6), 1), 100);
    }

    @Says(promise = 30, sentence = "seed: any long")
    static void anySeed(Check check) {
        long[] seeds = {Long.MIN_VALUE, Long.MIN_VALUE + 1, -2, -1, 0, 1, 2, Long.MAX_VALUE - 1, Long.MAX_VALUE,
            Integer.MIN_VALUE, Integer.MAX_VALUE, 1L << 32, 1L << 33};
        for (long seed : seeds) {
            check.same("the seed " + seed, Offices.full().simulate(seed, 60), Turns.byCalls(Offices.full(), seed, 60));
            check.same("the seed " + seed, new ChairStamps().simulate(seed, 60), Turns.byCalls(new ChairStamps(), seed, 60));
        }
    }

    @Says(promise = 30, sentence = "m: number of turns, 1 to 60")
    static void numbersOfTurns(Check check) {
        check.range(Check.ARGUMENT, Offices::busy, 1, 60, (x, m) -> x.simulate(5, m));
        int more = 0;
        for (long seed = 0; seed < 100; seed++) {
            int all = Turns.byCalls(Offices.full(), seed, 60);
            check.same("60 turns of " + seed, Offices.full().simulate(seed, 60), all);
            more += all != Turns.byCalls(Offices.full(), seed, 59) ? 1 : 0;
        }
        check.same("the turn 60 is one that is seen", more > 0 ? 1 : 0, 1);
        ChairStamps x = Offices.withLegs(450, 450, 450, 450);
        long sawAndTest = Turns.seed(8, 0, (kind, q) -> kind == 4 && q % 10 == 0);
        check.same("one turn", x.simulate(sawAndTest, 1), 10100);
        check.same("two turns", x.simulate(sawAndTest, 2), 10001);
    }

    @Says(promise = 30, sentence = "Returns 10000 * (the stamps given in the turns) + 100 * (the stamped chairs at the end)"
        + " + (the stamps that became void in the turns).")
    static void whatItReturns(Check check) {
        ChairStamps x = new ChairStamps();
        for (int c = 0; c < 10; c++) {
            x.chair(0, 450);
        }
        check.same("nothing", x.simulate(Turns.first(3), 1), 0);
        for (int c = 0; c < 10; c++) {
            x.test(c);
        }
        check.same("stamps given before the turns", x.simulate(Turns.first(8), 1), 1000);
        x.saw(9, 0, 1);
        check.same("stamps void before the turns", x.simulate(Turns.first(8), 1), 900);
        check.same("a stamp given in the turns", x.simulate(Turns.first(16 * 9 + 8), 1), 11000);
        check.same("stamps void in the turns", x.simulate(Turns.first(16 * 16 + 3), 1), 9);
        long voidThenTest = Turns.seed(3, 16, test(0), test(1));
        check.same("all three", x.simulate(voidThenTest, 3), 20209);
    }

    @Says(promise = 30, sentence = "Throws IllegalArgumentException if m is out of range")
    static void noSuchNumberOfTurns(Check check) {
        check.range(Check.ARGUMENT, ChairStamps::new, 1, 60, (x, m) -> x.simulate(Long.MIN_VALUE, m));
        check.range(Check.ARGUMENT, Offices::full, 1, 60, (x, m) -> x.simulate(Long.MAX_VALUE, m));
    }
}
