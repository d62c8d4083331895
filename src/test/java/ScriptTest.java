/** Promises 29 and 30: runScript and simulate. */
public final class ScriptTest {
    private static final Check CHECK = new Check();

    public static void main(String[] args) {
        eachCommand();
        otherDigits();
        severalCommands();
        scriptRanges();
        scriptsChangeNothing();
        simulateByHand();
        simulateLong();
        simulateRanges();
        CHECK.end();
    }

    /** Two chairs, the chair 1 of guild 2 a little worn on a floor of its own. */
    private static ChairStamps office() {
        ChairStamps x = new ChairStamps();
        x.chair(0, 450);
        x.chair(2, 470);
        x.floor(3, 0, 0, 1);
        x.bring(1, 1, 2);
        x.test(0);
        return x;
    }

    private static void succeeds(long command) {
        CHECK.same("promise 29: " + command, office().runScript(1, command), ChairStamps.NONE);
    }

    private static void fails(long command) {
        CHECK.same("promise 29: " + command, office().runScript(1, command), 0);
    }

    private static void eachCommand() {
        succeeds(100001);
        succeeds(113370);
        fails(100000);
        fails(113371);
        fails(113801);
        fails(104001);
        fails(120001);
        succeeds(200001);
        succeeds(213099);
        fails(200000);
        fails(204001);
        fails(220001);
        succeeds(301300);
        succeeds(310000);
        fails(302000);
        fails(301400);
        fails(320000);
        succeeds(400000);
        fails(400001);
        succeeds(410000);
        fails(420000);
        succeeds(500001);
        succeeds(510200);
        fails(500000);
        fails(500201);
        fails(520001);
        succeeds(600900);
        succeeds(633200);
        fails(600901);
        fails(633201);
        fails(640450);
        fails(604100);
        // The chair 1 stands with its leg 2 on the spot 0 and its leg 1 on the spot 3: it wobbles by 2.
        succeeds(710002);
        fails(710001);
        succeeds(700000);
        succeeds(710999);
        fails(720999);
        succeeds(800001);
        fails(800000);
        succeeds(810000);
        fails(810001);
        fails(820000);
        fails(800002);
        succeeds(900000);
        succeeds(910003);
        fails(910002);
        succeeds(910999);
        fails(920999);
        fails(0);
        fails(450);
        fails(99999);
    }

    /** Another digit where a 0 is written makes a group fail. */
    private static void otherDigits() {
        fails(200101);
        fails(200901);
        fails(301310);
        fails(301301);
        fails(401000);
        fails(400100);
        fails(400010);
        fails(501001);
        fails(701999);
        fails(801001);
        fails(800101);
        fails(800011);
        fails(901999);
        fails(709999);
    }

    private static void several(long script, int n, int due) {
        CHECK.same("promise 29: " + script, office().runScript(n, script), due);
    }

    private static void severalCommands() {
        several(100001800000L, 2, ChairStamps.NONE);
        several(100001800001L, 2, 1);
        several(301300700000L, 2, 1);
        several(301000700002L, 2, ChairStamps.NONE);
        several(100005400001L, 2, ChairStamps.NONE);
        several(100005400000L, 2, 1);
        several(100005200005400000L, 3, ChairStamps.NONE);
        several(100005200005800000L, 3, ChairStamps.NONE);
        several(100005200005800001L, 3, 2);
        several(602000400000100001L, 3, ChairStamps.NONE);
        several(602000100001400001L, 3, ChairStamps.NONE);
        several(600451400003800000L, 3, ChairStamps.NONE);
        several(500060100349100001L, 3, 2);
        several(500060100350100001L, 3, 1);
        several(500060100350L, 2, 1);
        several(410000810001800001L, 3, ChairStamps.NONE);
        several(999999400000400000L, 3, 0);
        several(400000400000L, 3, 0);
        several(400000999999400000L, 3, 1);
        several(400000L, 2, 0);
    }

    private static void scriptRanges() {
        ChairStamps x = office();
        CHECK.refused("promise 29: n 0", Check.ARGUMENT, () -> x.runScript(0, 0));
        CHECK.refused("promise 29: n 4", Check.ARGUMENT, () -> x.runScript(4, 400000));
        CHECK.refused("promise 29: n -1", Check.ARGUMENT, () -> x.runScript(-1, 0));
        CHECK.refused("promise 29: n most", Check.ARGUMENT, () -> x.runScript(Integer.MAX_VALUE, 0));
        CHECK.refused("promise 29: negative", Check.ARGUMENT, () -> x.runScript(1, -1));
        CHECK.refused("promise 29: least", Check.ARGUMENT, () -> x.runScript(3, Long.MIN_VALUE));
        long limit = 1;
        for (int n = 1; n <= 3; n++) {
            int commands = n;
            limit *= 1000000;
            long tooLong = limit;
            CHECK.refused("promise 29: digits", Check.ARGUMENT, () -> x.runScript(commands, tooLong));
            CHECK.same("promise 29: all digits", x.runScript(n, limit - 1), 0);
        }
        CHECK.refused("promise 29: most", Check.ARGUMENT, () -> x.runScript(3, Long.MAX_VALUE));
    }

    private static void scriptsChangeNothing() {
        ChairStamps x = office();
        String before = Check.all(x);
        x.runScript(3, 100005200005400000L);
        x.runScript(3, 310000410000500200L);
        x.runScript(3, 600300400000999999L);
        x.simulate(7, 60);
        CHECK.sameState("promises 29 and 30: they run on a copy", x, before);
        CHECK.same("promises 29 and 30: they are no actions", x.undo(), 4);
    }

    private static void simulateByHand() {
        ChairStamps x = office();
        CHECK.same("promise 30: the stamp that is there", x.simulate(Turns.first(0), 1), 100);
        CHECK.same("promise 30: test(0) again", x.simulate(Turns.first(8), 1), 100);
        CHECK.same("promise 30: test(1)", x.simulate(Turns.first(8 + 16), 1), 10200);
        CHECK.same("promise 30: test(2)", x.simulate(Turns.first(8 + 16 * 2), 1), 100);
        CHECK.same("promise 30: test(11 % 10)", x.simulate(Turns.first(10 + 16 * 11), 1), 10200);
        CHECK.same("promise 30: saw(0, 0, 1)", x.simulate(Turns.first(4), 1), 1);
        CHECK.same("promise 30: saw(1, 0, 1)", x.simulate(Turns.first(5 + 16), 1), 100);
        CHECK.same("promise 30: shim(0, 0, 1)", x.simulate(Turns.first(6), 1), 1);
        CHECK.same("promise 30: bring(0, 0, 0)", x.simulate(Turns.first(7), 1), 100);
        CHECK.same("promise 30: bring(0, 1, 1)", x.simulate(Turns.first(7 + 16 * 80), 1), 1);
        CHECK.same("promise 30: level(0, 0, 0)", x.simulate(Turns.first(3), 1), 100);
        CHECK.same("promise 30: level(0, 0, 1)", x.simulate(Turns.first(3 + 16 * 16), 1), 1);
        CHECK.same("promise 30: sit(0, 1)", x.simulate(Turns.first(12), 1), 100);
        CHECK.same("promise 30: sit(0, 61)", x.simulate(Turns.first(15 + 16 * 16 * 60), 1), 1);
        CHECK.same("promise 30: sit(0, 60)", x.simulate(Turns.first(13 + 16 * 950), 1), 1);
        CHECK.same("promise 30: sit(0, 59)", x.simulate(Turns.first(14 + 16 * 930), 1), 100);
        x.saw(0, 0, 1);
        x.test(0);
        CHECK.same("promise 30: bound(0, 2, 0)", x.simulate(Turns.first(11), 1), 1);
        CHECK.same("promise 30: bound(0, 3, 0)", x.simulate(Turns.first(11 + 16 * 4), 1), 1);
        CHECK.same("promise 30: bound(0, 2, 1)", x.simulate(Turns.first(11 + 16 * 8), 1), 100);
        CHECK.same("promise 30: chair", x.simulate(Turns.first(1 + 16 * 7), 1), 100);
        CHECK.same("promise 30: floor", x.simulate(Turns.first(2 + 16 * 7), 1), 100);
    }

    private static void simulateLong() {
        long[] seeds = {0, 1, -1, 42, 123456789, Long.MIN_VALUE, Long.MAX_VALUE, -6364136223846793005L};
        for (long seed : seeds) {
            for (int m = 1; m <= 60; m++) {
                int due = Turns.byCalls(new ChairStamps(), seed, m);
                CHECK.same("promise 30: " + m + " turns of " + seed, new ChairStamps().simulate(seed, m), due);
                due = Turns.byCalls(office(), seed + m, m);
                CHECK.same("promise 30: " + m + " turns of " + (seed + m), office().simulate(seed + m, m), due);
            }
        }
        int given = 0;
        int voided = 0;
        for (int seed = 0; seed < 500; seed++) {
            int got = new ChairStamps().simulate(seed, 60);
            CHECK.same("promise 30: seed " + seed, got, Turns.byCalls(new ChairStamps(), seed, 60));
            given += got / 10000;
            voided += got % 100;
        }
        CHECK.same("promise 30: stamps are given and become void", given > voided && voided > 100 ? 1 : 0, 1);
    }

    private static void simulateRanges() {
        ChairStamps x = new ChairStamps();
        CHECK.refused("promise 30: 0 turns", Check.ARGUMENT, () -> x.simulate(1, 0));
        CHECK.refused("promise 30: 61 turns", Check.ARGUMENT, () -> x.simulate(1, 61));
        CHECK.refused("promise 30: -1 turns", Check.ARGUMENT, () -> x.simulate(1, -1));
        CHECK.refused("promise 30: most turns", Check.ARGUMENT, () -> x.simulate(1, Integer.MAX_VALUE));
    }
}
