/** Promises 24 to 28: bestTurn, bestSaw, failsIn, bestFloor, sound. */
public final class WouldBeTest {
    private static final Check CHECK = new Check();

    public static void main(String[] args) {
        bestTurn();
        bestSaw();
        bestSawRefusals();
        failsIn();
        failsInEdges();
        bestFloor();
        sound();
        changeNothing();
        CHECK.end();
    }

    private static void turn(ChairStamps x, int f, int quarters, int wobble) {
        CHECK.same("promise 24: quarters on " + f, x.bestTurn(0, f, 0), quarters);
        CHECK.same("promise 24: wobble on " + f, x.bestTurn(0, f, 1), wobble);
    }

    private static void bestTurn() {
        ChairStamps x = new ChairStamps();
        x.chair(0, 450);
        x.floor(9, 0, 0, 0);
        turn(x, 0, 0, 0);
        // All turns of like legs wobble and lean alike.
        turn(x, 1, 0, 9);
        x.shim(0, 2, 9);
        // On its high spot the long leg neither wobbles nor leans.
        turn(x, 1, 2, 0);
        turn(x, 0, 0, 9);
        x.shim(0, 0, 9);
        // Turned by 0 or 2 it wobbles by 9, else by 27.
        turn(x, 1, 0, 9);
        x.floor(0, 9, 0, 9);
        turn(x, 2, 1, 0);
        x.floor(0, 5, 4, 5);
        x.saw(0, 2, 4);
        // Turned by 1 or 3 it wobbles by 8, else by 20; by both it leans by 8.
        turn(x, 3, 1, 8);
        x.bring(0, 3, 3);
        CHECK.same("promise 24: as it would be", x.wobble(0, 0), x.bestTurn(0, 3, 1));
        CHECK.refused("promise 24: chair 1", Check.INDEX, () -> x.bestTurn(1, 0, 0));
        CHECK.refused("promise 24: chair -1", Check.INDEX, () -> x.bestTurn(-1, 0, 0));
        CHECK.refused("promise 24: floor 4", Check.INDEX, () -> x.bestTurn(0, 4, 2));
        CHECK.refused("promise 24: floor -1", Check.INDEX, () -> x.bestTurn(0, -1, 0));
        CHECK.refused("promise 24: what 2", Check.ARGUMENT, () -> x.bestTurn(0, 0, 2));
        CHECK.refused("promise 24: what -1", Check.ARGUMENT, () -> x.bestTurn(0, 0, -1));
        ChairStamps y = new ChairStamps();
        y.chair(0, 450);
        y.floor(0, 0, 3, 3);
        // Without a wobble anywhere, the lean decides: the short legs on the high spots lean most.
        y.shim(0, 0, 3);
        y.shim(0, 1, 3);
        turn(y, 1, 2, 0);
        y.floor(3, 3, 0, 0);
        turn(y, 2, 0, 0);
        y.floor(3, 0, 0, 3);
        turn(y, 3, 3, 0);
    }

    private static void bestSaw() {
        ChairStamps x = new ChairStamps();
        x.chair(0, 450);
        CHECK.same("promise 25: no wobble", x.bestSaw(0), -1);
        x.shim(0, 3, 5);
        CHECK.same("promise 25: the long leg", x.bestSaw(0), 3);
        x.shim(0, 1, 2);
        // 447 + 455 or 452 + 448: the first leans by 10, the second by 7, 4 by 5 and so on.
        CHECK.same("promise 25: least lean", x.bestSaw(0), 3);
        x.saw(0, 3, 3);
        CHECK.same("promise 25: alike", x.bestSaw(0), 1);
        x.floor(0, 2, 0, 2);
        x.bring(0, 1, 2);
        CHECK.same("promise 25: the floor takes it up", x.bestSaw(0), -1);
        x.bring(0, 1, 1);
        CHECK.same("promise 25: turned it wobbles", x.bestSaw(0), 1);
        x.saw(0, 1, 8);
        CHECK.same("promise 25: not any more", x.bestSaw(0), -1);
        CHECK.same("promise 25: indeed", x.wobble(0, 0), 0);
        x.saw(0, 3, 1);
        // The even sum is greater by 1; of like leans the lowest.
        CHECK.same("promise 25: the lowest", x.bestSaw(0), 0);
        x.shim(0, 2, 9);
        CHECK.same("promise 25: the longer of the two", x.bestSaw(0), 2);
        CHECK.refused("promise 25: chair 1", Check.INDEX, () -> x.bestSaw(1));
        CHECK.refused("promise 25: chair -1", Check.INDEX, () -> x.bestSaw(-1));
    }

    /** Legs that would become shorter than 100 can't be sawn. */
    private static void bestSawRefusals() {
        ChairStamps x = new ChairStamps();
        x.chair(0, 110);
        x.saw(0, 1, 10);
        CHECK.same("promise 25: just long enough", x.bestSaw(0), 0);
        x.saw(0, 0, 1);
        // Now the wobble is 9: the leg 0 would become 100, the leg 2 101, both with a lean of 10.
        CHECK.same("promise 25: just long enough again", x.bestSaw(0), 0);
        x.saw(0, 3, 5);
        // Now it is 14, too much for all legs.
        CHECK.same("promise 25: too short", x.bestSaw(0), -1);
        x.shim(0, 2, 7);
        // Now it is 21: too much for both even legs.
        CHECK.same("promise 25: still too short", x.bestSaw(0), -1);
        x.shim(0, 2, 99);
        CHECK.same("promise 25: far above", x.bestSaw(0), -1);
        ChairStamps y = new ChairStamps();
        y.chair(0, 900);
        y.chair(0, 100);
        y.saw(0, 0, 800);
        // The wobble is 800: the odd legs could be sawn by it.
        CHECK.same("promise 25: 800", y.bestSaw(0), 1);
        y.saw(0, 2, 1);
        CHECK.same("promise 25: 801", y.bestSaw(0), -1);
        y.shim(1, 3, 1);
        CHECK.same("promise 25: only one can be", y.bestSaw(1), 3);
    }

    private static void failsIn() {
        ChairStamps x = new ChairStamps();
        x.chair(0, 450);
        CHECK.same("promise 26: too light ever", x.failsIn(0, 59), -1);
        CHECK.same("promise 26: 1 each", x.failsIn(0, 60), 51);
        CHECK.same("promise 26: 2 each", x.failsIn(0, 120), 26);
        CHECK.same("promise 26: 3 each", x.failsIn(0, 200), 17);
        x.bound(0, 0, 350);
        CHECK.same("promise 26: not up to 100", x.failsIn(0, 60), -1);
        x.bound(0, 0, 351);
        CHECK.same("promise 26: just 100", x.failsIn(0, 60), 100);
        x.bound(0, 0, 451);
        CHECK.same("promise 26: now", x.failsIn(0, 1), 0);
        CHECK.refused("promise 26: weight 0", Check.ARGUMENT, () -> x.failsIn(0, 0));
        CHECK.refused("promise 26: weight 201", Check.ARGUMENT, () -> x.failsIn(0, 201));
        CHECK.refused("promise 26: weight -1", Check.ARGUMENT, () -> x.failsIn(0, -1));
        CHECK.refused("promise 26: chair 1", Check.INDEX, () -> x.failsIn(1, 0));
        CHECK.refused("promise 26: chair -1", Check.INDEX, () -> x.failsIn(-1, 1));
    }

    private static void failsInEdges() {
        ChairStamps x = new ChairStamps();
        x.chair(0, 450);
        x.saw(0, 0, 4);
        x.set(1, 10);
        // The even sum is less by 4, 1, then in turn greater by 2 and less by 1: three legs wear
        // by 3 a sitter each time, until the sum of the lengths, 1796 at first, is below 1600.
        CHECK.same("promise 26: too low after 22", x.failsIn(0, 30), 22);
        CHECK.same("promise 26: wobbles by 5 after 1", x.failsIn(0, 90), 1);
        ChairStamps y = new ChairStamps();
        y.chair(0, 101);
        y.bound(0, 0, 100);
        y.set(1, 1);
        CHECK.same("promise 26: down to 100 it never fails", y.failsIn(0, 200), -1);
        y.floor(0, 0, 0, 5);
        y.bring(0, 1, 0);
        CHECK.same("promise 26: fails by its wobble now", y.failsIn(0, 200), 0);
        y.bound(0, 2, 5);
        CHECK.same("promise 26: by the idle leg alone", y.failsIn(0, 200), -1);
    }

    private static void bestFloor() {
        ChairStamps x = new ChairStamps();
        x.chair(0, 450);
        CHECK.same("promise 27: the only floor", x.bestFloor(0), 0);
        x.floor(7, 0, 7, 0);
        CHECK.same("promise 27: the even one", x.bestFloor(0), 0);
        x.shim(0, 1, 7);
        CHECK.same("promise 27: 7 on each, the lowest", x.bestFloor(0), 0);
        x.floor(0, 0, 0, 6);
        CHECK.same("promise 27: 1 if turned", x.bestFloor(0), 2);
        x.floor(6, 0, 0, 0);
        CHECK.same("promise 27: of like ones the lowest", x.bestFloor(0), 2);
        x.level(3, 0, 7);
        CHECK.same("promise 27: the last", x.bestFloor(0), 3);
        x.bring(0, 3, 0);
        CHECK.same("promise 27: wherever it stands", x.bestFloor(0), 3);
        x.chair(0, 450);
        CHECK.same("promise 27: another chair", x.bestFloor(1), 0);
        x.level(0, 1, 9);
        CHECK.same("promise 27: not the floor 0 any more", x.bestFloor(1), 2);
        ChairStamps y = new ChairStamps();
        y.chair(0, 450);
        y.level(0, 2, 5);
        y.floor(5, 0, 0, 0);
        CHECK.same("promise 27: alike", y.bestFloor(0), 0);
        y.level(1, 0, 4);
        CHECK.same("promise 27: the only other one", y.bestFloor(0), 1);
        y.undo();
        y.undo();
        CHECK.same("promise 27: a floor that is not there", y.bestFloor(0), 0);
        y.floor(0, 0, 0, 0);
        y.level(0, 2, 0);
        y.level(0, 1, 3);
        y.shim(0, 2, 3);
        CHECK.same("promise 27: the floor 0, turned", y.bestFloor(0), 0);
        Check.write(y, "Kc0450");
        y.load();
        y.level(0, 0, 7);
        CHECK.same("promise 27: nor one from before", y.bestFloor(0), 0);
        CHECK.refused("promise 27: chair 2", Check.INDEX, () -> x.bestFloor(2));
        CHECK.refused("promise 27: chair -1", Check.INDEX, () -> x.bestFloor(-1));
    }

    private static void sound() {
        ChairStamps x = new ChairStamps();
        CHECK.same("promise 28: no chairs", x.sound(), 0);
        int[] lengths = {450, 399, 400, 500, 501, 450, 900, 100, 450, 480};
        for (int c = 0; c < 10; c++) {
            x.chair(c % 4, lengths[c]);
        }
        CHECK.same("promise 28: a set", x.sound(), 1 + 4 + 8 + 32 + 256 + 512);
        x.saw(9, 0, 5);
        x.saw(8, 2, 4);
        CHECK.same("promise 28: then", x.sound(), 1 + 4 + 8 + 32 + 256);
        x.bound(0, 1, 420);
        CHECK.same("promise 28: with a bound", x.sound(), 4 + 8 + 32);
        CHECK.same("promise 28: none is stamped", x.about(2), 0);
    }

    private static void changeNothing() {
        ChairStamps x = new ChairStamps();
        x.chair(0, 460);
        x.floor(5, 0, 2, 0);
        x.bring(0, 1, 1);
        x.shim(0, 1, 6);
        x.bound(0, 2, 50);
        x.test(0);
        String before = Check.all(x);
        x.bestTurn(0, 1, 0);
        x.bestTurn(0, 1, 1);
        x.bestSaw(0);
        x.failsIn(0, 200);
        x.bestFloor(0);
        x.sound();
        CHECK.sameState("promises 24 to 28: they change nothing", x, before);
        CHECK.same("promises 24 to 28: they are no actions", x.undo(), 5);
    }
}
