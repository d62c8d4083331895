/** Terms: guilds, tests, wear and settings. */
public final class EdgesOfGuildsTest {
    public static void main(String[] args) {
        Edges.run(EdgesOfGuildsTest.class);
    }

    @Says(sentence = "A guild has four bounds:")
    static void fourBounds(Check check) {
        check.range(Check.INDEX, Offices::busy, 0, 3, (y, k) -> y.boundOf(3, k));
        check.range(Check.INDEX, Offices::busy, 0, 3, (y, g) -> y.boundOf(g, 3));
        ChairStamps x = new ChairStamps();
        for (int i = 0; i < 16; i++) {
            x.bound(i / 4, i % 4, i % 4 < 2 ? 100 + i : i);
        }
        for (int i = 0; i < 16; i++) {
            check.same("the bound " + i % 4 + " of the guild " + i / 4, x.boundOf(i / 4, i % 4), i % 4 < 2 ? 100 + i : i);
        }
    }

    private static void bound(Check check, int k, int least, int most, int first) {
        for (int g = 0; g <= 3; g++) {
            int guild = g;
            check.same("at first", new ChairStamps().boundOf(g, k), first);
            check.range(Check.ARGUMENT, Offices::busy, least, most, (y, v) -> y.bound(guild, k, v));
        }
    }

    @Says(sentence = "0: the least height of a seat, 100 to 900, at first 400")
    static void leastSeat(Check check) {
        bound(check, 0, 100, 900, 400);
    }

    @Says(sentence = "1: the greatest height, 100 to 900, at first 500")
    static void mostSeat(Check check) {
        bound(check, 1, 100, 900, 500);
    }

    @Says(sentence = "2: the greatest wobble, 0 to 100, at first 4")
    static void mostWobble(Check check) {
        bound(check, 2, 0, 100, 4);
    }

    @Says(sentence = "3: the greatest lean, 0 to 200, at first 12.")
    static void mostLean(Check check) {
        bound(check, 3, 0, 200, 12);
    }

    /** The reason for which a chair of guild 0 with these legs fails when one bound is another. */
    private static int reason(int k, int v, int... legs) {
        ChairStamps x = Offices.withLegs(legs);
        x.bound(0, k, v);
        return x.chairOf(0, 7);
    }

    @Says(sentence = "A chair fails for the first of these reasons that is so:")
    static void theFirstReason(Check check) {
        ChairStamps x = Offices.withLegs(450, 450, 450, 430);
        x.bound(0, 0, 446);
        x.bound(0, 1, 444);
        check.same("all four are so", x.chairOf(0, 7), 1);
        x.bound(0, 2, 20);
        check.same("the last three are so", x.chairOf(0, 7), 2);
        x.bound(0, 3, 20);
        check.same("the last two are so", x.chairOf(0, 7), 3);
        x.bound(0, 0, 445);
        check.same("the last one is so", x.chairOf(0, 7), 4);
        x.bound(0, 1, 445);
        check.same("none is so", x.chairOf(0, 7), 0);
        x.bound(0, 2, 19);
        check.same("the first one is so", x.chairOf(0, 7), 1);
    }

    @Says(sentence = "1: its wobble is above the bound of its guild")
    static void wobbleAboveTheBound(Check check) {
        check.same("4 of 4", reason(2, 4, 450, 450, 450, 446), 0);
        check.same("5 of 4", reason(2, 4, 450, 450, 450, 445), 1);
        check.same("0 of 0", reason(2, 0, 450, 450, 450, 450), 0);
        check.same("1 of 0", reason(2, 0, 450, 451, 450, 450), 1);
        check.same("100 of 100, it leans too much", reason(2, 100, 450, 450, 450, 350), 2);
        check.same("101 of 100", reason(2, 100, 450, 450, 450, 349), 1);
        ChairStamps x = new ChairStamps();
        x.chair(3, 450);
        x.shim(0, 0, 5);
        x.bound(2, 2, 5);
        check.same("another guild's bound", x.chairOf(0, 7), 1);
        x.bound(3, 2, 5);
        check.same("its own guild's bound", x.chairOf(0, 7), 0);
    }

    @Says(sentence = "2: its lean is")
    static void leanAboveTheBound(Check check) {
        check.same("12 of 12", reason(3, 12, 450, 450, 438, 438), 0);
        check.same("13 of 12", reason(3, 12, 450, 450, 437, 437), 2);
        check.same("0 of 0", reason(3, 0, 450, 450, 450, 450), 0);
        check.same("1 of 0", reason(3, 0, 450, 451, 451, 450), 2);
        check.same("200 of 200", reason(3, 200, 500, 500, 300, 300), 0);
        check.same("201 of 200", reason(3, 200, 500, 501, 301, 300), 2);
    }

    @Says(sentence = "3: its seat is too low")
    static void seatTooLow(Check check) {
        check.same("400 of 400", reason(0, 400, 400, 400, 400, 400), 0);
        check.same("399, rounded down, of 400", reason(0, 400, 400, 400, 400, 399), 3);
        check.same("100 of 100", reason(0, 100, 100, 100, 100, 100), 0);
        check.same("100 of 101", reason(0, 101, 100, 100, 100, 100), 3);
        check.same("899 of 900", reason(0, 900, 899, 900, 900, 900), 3);
        check.same("900 of 900, it is too high", reason(0, 900, 900, 900, 900, 900), 4);
    }

    @Says(sentence = "4: its seat is too high.")
    static void seatTooHigh(Check check) {
        check.same("500 of 500", reason(1, 500, 500, 500, 500, 500), 0);
        check.same("500, rounded down, of 500", reason(1, 500, 500, 503, 500, 500), 0);
        check.same("501 of 500", reason(1, 500, 500, 504, 500, 500), 4);
        check.same("899 of 899", reason(1, 899, 899, 899, 899, 899), 0);
        check.same("900 of 899", reason(1, 899, 900, 900, 900, 900), 4);
        check.same("900 of 900", reason(1, 900, 900, 900, 900, 900), 0);
        check.same("400 of 100", reason(1, 100, 400, 400, 400, 400), 4);
    }

    @Says(sentence = "When a chair is tested, the fee of setting 0 is paid")
    static void feesOfTests(Check check) {
        ChairStamps x = Offices.withLegs(450, 450, 450, 450);
        x.chair(0, 399);
        x.test(0);
        check.same("one that does not fail", x.about(6), 5);
        x.test(0);
        check.same("one that is stamped", x.about(6), 10);
        x.test(1);
        check.same("one that fails", x.about(6), 15);
        x.set(0, 0);
        x.test(0);
        check.same("the least fee", x.about(6), 15);
        x.set(0, 50);
        check.same("a new fee is not paid for earlier tests", x.about(6), 15);
        x.test(0);
        check.same("the greatest fee", x.about(6), 65);
    }

    @Says(sentence = "if it does not fail, it is stamped.")
    static void stampedByATest(Check check) {
        ChairStamps x = Offices.withLegs(450, 450, 450, 446);
        check.same("before the test", x.chairOf(0, 6), 0);
        x.test(0);
        check.same("just not failing", x.chairOf(0, 6), 1);
        ChairStamps y = Offices.withLegs(450, 450, 450, 445);
        y.test(0);
        check.same("just failing", y.chairOf(0, 6), 0);
        y.bound(0, 2, 5);
        check.same("not failing any more, but not tested then", y.chairOf(0, 6), 0);
    }

    /** Two stamped chairs of guild 0 on the floor 0, and a floor 1 with spots of 1. */
    private static ChairStamps twoStamped() {
        ChairStamps x = new ChairStamps();
        x.chair(0, 450);
        x.chair(0, 450);
        x.floor(1, 1, 1, 1);
        x.test(0);
        x.test(1);
        return x;
    }

    private static void stamps(Check check, String when, Check.Use call, int first, int second, int voided) {
        ChairStamps x = twoStamped();
        call.on(x);
        check.same("the stamp of the chair 0 " + when, x.chairOf(0, 6), first);
        check.same("the stamp of the chair 1 " + when, x.chairOf(1, 6), second);
        check.same("stamps that became void " + when, x.about(5), voided);
    }

    @Says(sentence = "The stamp is void when a leg of the chair changes")
    static void voidByALeg(Check check) {
        for (int k = 0; k <= 3; k++) {
            int leg = k;
            stamps(check, "sawn by 1", x -> x.saw(0, leg, 1), 0, 1, 1);
            stamps(check, "shimmed by 1", x -> x.shim(1, leg, 1), 1, 0, 1);
        }
        stamps(check, "worn by 1", x -> x.sit(0, 60), 0, 1, 1);
        stamps(check, "not worn", x -> x.sit(0, 59), 1, 1, 0);
        stamps(check, "sawn twice", x -> x.saw(0, 0, 1) + x.saw(0, 0, 1), 0, 1, 1);
        stamps(check, "sawn and shimmed back", x -> x.saw(0, 0, 1) + x.shim(0, 0, 1), 0, 1, 1);
        ChairStamps x = twoStamped();
        check.refused("sawn too short", Check.STATE, () -> x.saw(0, 0, 351));
        check.same("the stamp behind a refused call", x.chairOf(0, 6), 1);
    }

    @Says(sentence = "it comes to another floor or other quarters")
    static void voidByAPlace(Check check) {
        stamps(check, "on another floor", x -> x.bring(0, 1, 0), 0, 1, 1);
        stamps(check, "on another floor, turned", x -> x.bring(1, 1, 3), 1, 0, 1);
        for (int q = 1; q <= 3; q++) {
            int quarters = q;
            stamps(check, "turned by " + q, x -> x.bring(0, 0, quarters), 0, 1, 1);
        }
        stamps(check, "at the same place", x -> x.bring(0, 0, 0), 1, 1, 0);
        stamps(check, "there and back", x -> x.bring(0, 1, 0) + x.bring(0, 0, 0), 0, 1, 1);
    }

    @Says(sentence = "a spot of its floor comes to another height (whatever it wobbles then)")
    static void voidByASpot(Check check) {
        for (int k = 0; k <= 3; k++) {
            int spot = k;
            stamps(check, "spot " + k + " raised by 1", x -> x.level(0, spot, 1), 0, 0, 2);
            stamps(check, "spot " + k + " as it was", x -> x.level(0, spot, 0), 1, 1, 0);
            stamps(check, "spot " + k + " of another floor", x -> x.level(1, spot, 50), 1, 1, 0);
        }
        stamps(check, "raised and lowered", x -> x.level(0, 0, 1) + x.level(0, 0, 0), 0, 0, 2);
        stamps(check, "one has left the floor", x -> x.bring(0, 1, 0) + x.test(0) + x.level(0, 0, 1), 1, 0, 2);
        ChairStamps x = Offices.withLegs(450, 450, 450, 448);
        x.test(0);
        x.level(0, 0, 4);
        check.same("it wobbles by 2 as before", x.wobble(0, 0), 2);
        check.same("void though it wobbles as before", x.chairOf(0, 6), 0);
    }

    @Says(sentence = "or the chair fails as a bound of its guild is changed.")
    static void voidByABound(Check check) {
        stamps(check, "just not too low", x -> x.bound(0, 0, 450), 1, 1, 0);
        stamps(check, "just too low", x -> x.bound(0, 0, 451), 0, 0, 2);
        stamps(check, "just not too high", x -> x.bound(0, 1, 450), 1, 1, 0);
        stamps(check, "just too high", x -> x.bound(0, 1, 449), 0, 0, 2);
        stamps(check, "as it was", x -> x.bound(0, 0, 400), 1, 1, 0);
        stamps(check, "of another guild", x -> x.bound(1, 0, 900), 1, 1, 0);
        stamps(check, "there and back", x -> x.bound(0, 0, 451) + x.bound(0, 0, 400), 0, 0, 2);
        ChairStamps x = Offices.withLegs(450, 450, 450, 447);
        x.test(0);
        x.bound(0, 2, 3);
        x.bound(0, 3, 3);
        check.same("wobbling and leaning as much as allowed", x.chairOf(0, 6), 1);
        x.bound(0, 2, 2);
        check.same("wobbling too much", x.chairOf(0, 6), 0);
        x.bound(0, 2, 3);
        x.test(0);
        x.bound(0, 3, 2);
        check.same("leaning too much", x.chairOf(0, 6), 0);
    }

    @Says(sentence = "When a sitter of a weight of 1 to 200 sits on a chair")
    static void weights(Check check) {
        check.range(Check.ARGUMENT, Offices::busy, 1, 200, (y, weight) -> y.sit(0, weight));
    }

    /** How much the legs wear when the first sitter sits down. */
    private static int worn(int hardness, int weight, int... legs) {
        ChairStamps x = Offices.withLegs(legs);
        x.set(1, hardness);
        return x.sit(0, weight);
    }

    @Says(sentence = "each leg that is not idle wears by the weight divided by setting 1")
    static void wear(Check check) {
        int[][] due = {{60, 59, 0}, {60, 60, 1}, {60, 119, 1}, {60, 120, 2}, {60, 200, 3}, {1, 1, 1}, {1, 200, 200},
            {200, 199, 0}, {200, 200, 1}, {199, 200, 1}, {2, 1, 0}, {101, 200, 1}, {100, 200, 2}};
        for (int[] d : due) {
            String what = "the weight " + d[1] + " on the hardness " + d[0];
            check.same(what + ", no leg idle", worn(d[0], d[1], 450, 450, 450, 450), 4 * d[2]);
            check.same(what + ", a leg idle", worn(d[0], d[1], 450, 449, 450, 450), 3 * d[2]);
        }
        for (int idle = 0; idle <= 3; idle++) {
            ChairStamps x = Offices.withLegs(450, 450, 450, 450);
            x.saw(0, idle, 1);
            x.sit(0, 60);
            for (int k = 0; k <= 3; k++) {
                check.same("the leg " + k + " with " + idle + " idle", x.legOf(0, k, 0), 449);
            }
        }
    }

    @Says(sentence = "but no leg becomes shorter than 100 (it wears down to 100 then).")
    static void wornDown(Check check) {
        check.same("just down to 100", worn(60, 200, 103, 103, 103, 103), 12);
        check.same("one less than the weight asks for", worn(60, 200, 102, 102, 102, 102), 8);
        check.same("one more than the weight asks for", worn(60, 200, 104, 104, 104, 104), 12);
        check.same("from 900 by 200", worn(1, 200, 900, 900, 900, 900), 800);
        check.same("from 299 by 200", worn(1, 200, 299, 299, 299, 299), 796);
        ChairStamps x = Offices.withLegs(101, 102, 105, 104);
        // No leg is idle; each wears by 3 if it can.
        check.same("each leg as far as it can", x.sit(0, 180), 1 + 2 + 3 + 3);
        int[] due = {100, 100, 102, 101};
        for (int k = 0; k <= 3; k++) {
            check.same("the leg " + k, x.legOf(0, k, 0), due[k]);
        }
        check.same("counted as far as it went", x.about(10), 9);
    }

    @Says(sentence = "(If that is 0, or no leg becomes shorter, no leg changes.)")
    static void noLegWears(Check check) {
        ChairStamps x = Offices.withLegs(100, 100, 100, 100);
        x.bound(0, 0, 100);
        x.test(0);
        check.same("nothing to wear", x.sit(0, 200), 0);
        check.same("the stamp of legs that can't wear", x.chairOf(0, 6), 1);
        x.shim(0, 2, 1);
        x.test(0);
        // The leg 1 is idle, 0 and 3 are as short as can be, 2 becomes shorter.
        check.same("one leg wears", x.sit(0, 60), 1);
        check.same("the stamp of a leg that wore", x.chairOf(0, 6), 0);
        ChairStamps y = Offices.withLegs(450, 450, 450, 450);
        y.test(0);
        y.sit(0, 59);
        check.same("the stamp behind a light sitter", y.chairOf(0, 6), 1);
        check.same("the light sitter is one", y.chairOf(0, 8), 1);
    }

    @Says(sentence = "0: the fee of a test, 0 to 50, at first 5")
    static void fees(Check check) {
        check.same("at first", new ChairStamps().setting(0), 5);
        check.range(Check.ARGUMENT, Offices::busy, 0, 50, (y, v) -> y.set(0, v));
    }

    @Says(sentence = "1: the hardness of wood, 1 to 200, at first 60.")
    static void hardness(Check check) {
        check.same("at first", new ChairStamps().setting(1), 60);
        check.range(Check.ARGUMENT, Offices::busy, 1, 200, (y, v) -> y.set(1, v));
    }
}
