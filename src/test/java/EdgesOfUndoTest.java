/** Terms: actions, undo and exceptions; promise 23. */
public final class EdgesOfUndoTest {
    private static final Check.Use[] ACTIONS = {
        x -> x.chair(3, 900), x -> x.floor(50, 0, 50, 0), x -> x.level(0, 3, 50), x -> x.bring(0, 1, 3),
        x -> x.saw(0, 3, 350), x -> x.shim(0, 3, 99), x -> x.test(1), x -> x.sit(0, 200),
        x -> x.bound(3, 3, 200), x -> x.set(1, 200),
    };
    /** Of these nothing becomes different, but that tests and sitters are counted. */
    private static final Check.Use[] IDLE_ACTIONS = {
        x -> x.level(0, 3, 0), x -> x.bring(0, 0, 0), x -> x.bound(3, 3, 12), x -> x.set(0, 5), x -> x.set(1, 60),
        x -> x.test(0), x -> x.sit(0, 1),
    };
    private static final Check.Use[] REFUSED = {
        x -> x.chair(4, 450), x -> x.chair(0, 99), x -> x.floor(51, 0, 0, 0), x -> x.level(0, 4, 0),
        x -> x.level(0, 0, 51), x -> x.bring(0, 2, 0), x -> x.bring(0, 0, 4), x -> x.saw(0, 4, 1),
        x -> x.saw(0, 0, 801), x -> x.saw(0, 0, 800), x -> x.shim(0, 4, 1), x -> x.shim(0, 0, 100),
        x -> x.test(2), x -> x.sit(2, 1), x -> x.sit(0, 201), x -> x.bound(0, 4, 0), x -> x.bound(0, 2, 101),
        x -> x.set(0, 51), x -> x.set(2, 0),
    };

    public static void main(String[] args) {
        Edges.run(EdgesOfUndoTest.class);
    }

    /** Two chairs and two floors, the chair 0 stamped; nothing is remembered. */
    private static ChairStamps office() {
        return Check.loaded(Offices.TEXT);
    }

    private static int remembered(ChairStamps x) {
        for (int n = 0; n <= 20; n++) {
            try {
                x.undo();
            } catch (IllegalStateException e) {
                return n;
            }
        }
        return 21;
    }

    @Says(sentence = "The methods in the section \"actions\" change the state,"
        + " which consists of everything but the text and the save slots.")
    static void whatActionsChange(Check check) {
        String before = Check.all(office());
        for (int i = 0; i < ACTIONS.length; i++) {
            ChairStamps x = office();
            x.save(1);
            ACTIONS[i].on(x);
            check.same("the action " + i + " changes the state", Check.all(x).equals(before) ? 0 : 1, 1);
            check.same("the error position of the text", x.errorPosition(), -1);
            x.restore(1);
            check.sameState("the slot behind the action " + i, x, before);
            check.same("the length of the text", x.clearText(), Offices.TEXT.length());
        }
        ChairStamps x = office();
        x.set(0, 9);
        x.save(0);
        x.append('t');
        x.undo();
        check.same("undo leaves the text", x.errorPosition(), Offices.TEXT.length() + 1);
        x.restore(0);
        check.same("undo leaves the slots", x.setting(0), 9);
    }

    @Says(sentence = "Each call of one of them that does not throw an exception is an action, also if nothing becomes different")
    static void eachCallIsAnAction(Check check) {
        for (int i = 0; i < ACTIONS.length; i++) {
            ChairStamps x = office();
            ACTIONS[i].on(x);
            check.same("remembered behind the action " + i, remembered(x), 1);
        }
        for (int i = 0; i < IDLE_ACTIONS.length; i++) {
            ChairStamps x = office();
            IDLE_ACTIONS[i].on(x);
            check.same("remembered behind the idle action " + i, remembered(x), 1);
        }
        for (int i = 0; i < REFUSED.length; i++) {
            ChairStamps x = office();
            Check.Use call = REFUSED[i];
            try {
                call.on(x);
                check.fault("the call " + i + " is not refused");
            } catch (IndexOutOfBoundsException | IllegalArgumentException | IllegalStateException e) {
                check.same("remembered behind the refused call " + i, remembered(x), 0);
            }
        }
    }

    @Says(sentence = "(undo is none)")
    static void undoIsNoAction(Check check) {
        ChairStamps x = office();
        String first = Check.all(x);
        x.set(0, 1);
        x.set(0, 2);
        check.same("one is left", x.undo(), 1);
        check.same("none is left", x.undo(), 0);
        check.refused("undo is not taken back", Check.STATE, x::undo);
        check.sameState("at the beginning", x, first);
    }

    @Says(sentence = "Before each action, the state is remembered.")
    static void stateBeforeEachAction(Check check) {
        String before = Check.all(office());
        for (int i = 0; i < ACTIONS.length; i++) {
            ChairStamps x = office();
            ACTIONS[i].on(x);
            x.undo();
            check.sameState("taken back, the action " + i, x, before);
        }
        ChairStamps x = office();
        for (Check.Use action : ACTIONS) {
            action.on(x);
        }
        for (int i = ACTIONS.length - 1; i >= 0; i--) {
            check.same("still remembered", x.undo(), i);
        }
        check.sameState("all taken back", x, before);
    }

    private static ChairStamps withActions(int actions) {
        ChairStamps x = office();
        for (int i = 1; i <= actions; i++) {
            x.set(0, i);
        }
        return x;
    }

    @Says(sentence = "At most 14 states are remembered")
    static void atMost14(Check check) {
        for (int actions = 0; actions <= 45; actions++) {
            check.same(actions + " actions", remembered(withActions(actions)), Math.min(actions, 14));
        }
    }

    @Says(sentence = "when one more is remembered, the oldest one is forgotten.")
    static void theOldestIsForgotten(Check check) {
        for (int actions = 14; actions <= 45; actions++) {
            ChairStamps x = withActions(actions);
            for (int i = 13; i >= 0; i--) {
                check.same("still remembered of " + actions, x.undo(), i);
                int due = actions - 14 + i;
                check.same("the fee of " + actions, x.setting(0), due == 0 ? 5 : due);
            }
            check.refused("one more of " + actions, Check.STATE, x::undo);
        }
        ChairStamps x = withActions(20);
        for (int i = 0; i < 14; i++) {
            x.undo();
        }
        x.set(0, 33);
        check.same("one remembered when all are taken back", x.undo(), 0);
        check.same("the oldest of those", x.setting(0), 6);
    }

    @Says(sentence = "load and restore are not actions.")
    static void loadAndRestore(Check check) {
        ChairStamps x = withActions(14);
        x.load();
        check.refused("undo behind load", Check.STATE, x::undo);
        ChairStamps y = withActions(14);
        y.save(0);
        y.restore(0);
        check.refused("undo behind restore", Check.STATE, y::undo);
        ChairStamps z = withActions(13);
        z.clearText();
        check.refused("load of no text", Check.STATE, z::load);
        check.refused("restore of an empty slot", Check.STATE, () -> z.restore(1));
        check.refused("restore of no slot", Check.INDEX, () -> z.restore(2));
        check.same("all 13 behind refused ones", z.undo(), 12);
    }

    private static void allRefused(Check check, Class<? extends RuntimeException> due, Check.Make make, Check.Use... calls) {
        for (int i = 0; i < calls.length; i++) {
            check.refusedLeaving("the call " + i, due, make, calls[i]);
        }
    }

    @Says(sentence = "IndexOutOfBoundsException means that a chair, a leg, a floor, a spot, a guild or a bound does not exist,"
        + " or that a save slot is not 0 or 1.")
    static void whatDoesNotExist(Check check) {
        allRefused(check, Check.INDEX, Offices::busy, x -> x.chairOf(2, 0), x -> x.wobble(2, 0), x -> x.legOf(2, 0, 0),
            x -> x.bring(2, 0, 0), x -> x.saw(2, 0, 1), x -> x.shim(2, 0, 1), x -> x.test(2), x -> x.sit(2, 1),
            x -> x.bestTurn(2, 0, 0), x -> x.bestSaw(2), x -> x.failsIn(2, 1), x -> x.bestFloor(2));
        allRefused(check, Check.INDEX, Offices::busy, x -> x.chairOf(-1, 0), x -> x.wobble(-1, 0), x -> x.legOf(-1, 0, 0),
            x -> x.bring(-1, 0, 0), x -> x.saw(-1, 0, 1), x -> x.shim(-1, 0, 1), x -> x.test(-1), x -> x.sit(-1, 1),
            x -> x.bestTurn(-1, 0, 0), x -> x.bestSaw(-1), x -> x.failsIn(-1, 1), x -> x.bestFloor(-1));
        allRefused(check, Check.INDEX, Offices::busy, x -> x.legOf(0, 4, 0), x -> x.saw(0, 4, 1), x -> x.shim(0, 4, 1),
            x -> x.legOf(0, -1, 0), x -> x.saw(0, -1, 1), x -> x.shim(0, -1, 1));
        allRefused(check, Check.INDEX, Offices::busy, x -> x.spot(2, 0), x -> x.level(2, 0, 0), x -> x.bring(0, 2, 0),
            x -> x.bestTurn(0, 2, 0), x -> x.spot(-1, 0), x -> x.level(-1, 0, 0), x -> x.bring(0, -1, 0),
            x -> x.bestTurn(0, -1, 0), x -> x.spot(0, 4), x -> x.level(0, 4, 0), x -> x.spot(0, -1), x -> x.level(0, -1, 0));
        allRefused(check, Check.INDEX, Offices::busy, x -> x.boundOf(4, 0), x -> x.chair(4, 450), x -> x.bound(4, 0, 450),
            x -> x.boundOf(-1, 0), x -> x.chair(-1, 450), x -> x.bound(-1, 0, 450), x -> x.boundOf(0, 4),
            x -> x.bound(0, 4, 100), x -> x.boundOf(0, -1), x -> x.bound(0, -1, 100));
        allRefused(check, Check.INDEX, Offices::busy, x -> x.save(2), x -> x.restore(2), x -> x.save(-1), x -> x.restore(-1));
    }

    @Says(sentence = "IllegalArgumentException means that another argument is out of its range.")
    static void otherArguments(Check check) {
        allRefused(check, Check.ARGUMENT, Offices::busy, x -> x.append(256), x -> x.about(11), x -> x.chairOf(0, 9),
            x -> x.wobble(0, 2), x -> x.legOf(0, 0, 3), x -> x.setting(2), x -> x.chair(0, 901), x -> x.floor(0, 0, 0, 51),
            x -> x.level(0, 0, 51), x -> x.bring(0, 0, 4), x -> x.saw(0, 0, 801), x -> x.shim(0, 0, 100),
            x -> x.sit(0, 201), x -> x.bound(0, 0, 901), x -> x.set(2, 1), x -> x.set(0, 51), x -> x.bestTurn(0, 0, 2),
            x -> x.failsIn(0, 201), x -> x.runScript(4, 0), x -> x.runScript(1, 1000000), x -> x.simulate(0, 61));
        allRefused(check, Check.ARGUMENT, Offices::busy, x -> x.append(-1), x -> x.about(-1), x -> x.chairOf(0, -1),
            x -> x.wobble(0, -1), x -> x.legOf(0, 0, -1), x -> x.setting(-1), x -> x.chair(0, 99), x -> x.floor(0, 0, 0, -1),
            x -> x.level(0, 0, -1), x -> x.bring(0, 0, -1), x -> x.saw(0, 0, 0), x -> x.shim(0, 0, 0),
            x -> x.sit(0, 0), x -> x.bound(0, 0, 99), x -> x.set(-1, 1), x -> x.set(1, 0), x -> x.bestTurn(0, 0, -1),
            x -> x.failsIn(0, 0), x -> x.runScript(0, 0), x -> x.runScript(1, -1), x -> x.simulate(0, 0));
    }

    @Says(sentence = "IllegalStateException means what the method says.")
    static void otherStates(Check check) {
        allRefused(check, Check.STATE, Offices::fullText, x -> x.append('7'), x -> x.load());
        allRefused(check, Check.STATE, Offices::fullOfChairs, x -> x.chair(0, 450), x -> x.restore(1));
        allRefused(check, Check.STATE, Offices::fullOfFloors, x -> x.floor(0, 0, 0, 0));
        allRefused(check, Check.STATE, Offices::busy, x -> x.saw(0, 0, 351), x -> x.restore(1));
        allRefused(check, Check.STATE, () -> Offices.withLegs(802, 802, 802, 802), x -> x.shim(0, 0, 99));
        allRefused(check, Check.STATE, ChairStamps::new, x -> x.undo(), x -> x.load(), x -> x.restore(0));
    }

    @Says(sentence = "If several exceptions apply to a call, the one that its description names first is thrown.")
    static void theFirstNamed(Check check) {
        allRefused(check, Check.INDEX, Offices::full, x -> x.chairOf(10, 9), x -> x.wobble(10, 2), x -> x.legOf(10, 4, 3),
            x -> x.legOf(0, 4, 3), x -> x.chair(4, 99), x -> x.chair(4, 450), x -> x.level(4, 4, 51), x -> x.level(0, 4, 51),
            x -> x.bring(10, 4, 4), x -> x.bring(0, 4, 4), x -> x.saw(10, 4, 801), x -> x.saw(0, 4, 801),
            x -> x.saw(0, 4, 800), x -> x.shim(10, 4, 100), x -> x.shim(0, 4, 100), x -> x.sit(10, 201),
            x -> x.bound(4, 4, 901), x -> x.bound(0, 4, 901), x -> x.bestTurn(10, 4, 2), x -> x.bestTurn(0, 4, 2),
            x -> x.failsIn(10, 201), x -> x.restore(2));
        allRefused(check, Check.ARGUMENT, Offices::full, x -> x.chair(0, 99), x -> x.floor(51, 0, 0, 0),
            x -> x.saw(0, 0, 801));
        allRefused(check, Check.ARGUMENT, Offices::fullText, x -> x.append(256), x -> x.append(-1));
        allRefused(check, Check.ARGUMENT, () -> Offices.withLegs(900, 900, 900, 900), x -> x.shim(0, 0, 100));
        allRefused(check, Check.INDEX, () -> Offices.withLegs(900, 900, 900, 900), x -> x.shim(0, 4, 99));
        allRefused(check, Check.INDEX, ChairStamps::new, x -> x.restore(2), x -> x.restore(-1));
    }

    @Says(sentence = "A call that throws an exception changes nothing.")
    static void refusedCallsChangeNothing(Check check) {
        ChairStamps x = office();
        String before = Check.all(x);
        for (Check.Use call : REFUSED) {
            try {
                call.on(x);
                check.fault("a call is not refused");
            } catch (IndexOutOfBoundsException | IllegalArgumentException | IllegalStateException e) {
                check.sameState("behind it", x, before);
            }
        }
        check.refused("nothing is remembered", Check.STATE, x::undo);
    }

    @Says(promise = 23, sentence = "Takes back the last action that is remembered.")
    static void theLastAction(Check check) {
        ChairStamps x = office();
        x.saw(0, 0, 1);
        x.test(1);
        x.shim(0, 0, 2);
        x.undo();
        check.same("the shim", x.legOf(0, 0, 0), 449);
        check.same("its wood", x.about(9), 0);
        x.undo();
        check.same("the test", x.about(3), 1);
        x.undo();
        check.same("the saw", x.legOf(0, 0, 0), 450);
        check.same("the stamp is not void", x.chairOf(0, 6), 1);
        check.same("stamps that became void", x.about(5), 0);
    }

    @Says(promise = 23, sentence = "Takes back the last action that is remembered.")
    static void actionsBetween(Check check) {
        ChairStamps x = withActions(20);
        for (int i = 0; i < 5; i++) {
            x.undo();
        }
        check.same("back by 5", x.setting(0), 15);
        for (int i = 31; i <= 37; i++) {
            x.set(0, i);
        }
        int[] due = {36, 35, 34, 33, 32, 31, 15, 14, 13, 12, 11, 10, 9, 8};
        for (int i = 0; i < 14; i++) {
            check.same("still remembered", x.undo(), 13 - i);
            check.same("the fee", x.setting(0), due[i]);
        }
        check.refused("no more", Check.STATE, x::undo);
    }

    @Says(promise = 23, sentence = "Returns how many states are still remembered.")
    static void stillRemembered(Check check) {
        check.same("one", withActions(1).undo(), 0);
        check.same("two", withActions(2).undo(), 1);
        check.same("13", withActions(13).undo(), 12);
        check.same("14", withActions(14).undo(), 13);
        check.same("15", withActions(15).undo(), 13);
        check.same("50", withActions(50).undo(), 13);
    }

    @Says(promise = 23, sentence = "Throws IllegalStateException if none is remembered")
    static void noneIsRemembered(Check check) {
        check.refusedLeaving("a new object", Check.STATE, ChairStamps::new, ChairStamps::undo);
        check.refusedLeaving("behind load", Check.STATE, EdgesOfUndoTest::office, ChairStamps::undo);
        Check.Make restored = () -> {
            ChairStamps x = Offices.busy();
            x.restore(0);
            return x;
        };
        check.refusedLeaving("behind restore", Check.STATE, restored, ChairStamps::undo);
        Check.Make takenBack = () -> {
            ChairStamps x = Offices.busy();
            remembered(x);
            return x;
        };
        check.refusedLeaving("behind 14 undos", Check.STATE, takenBack, ChairStamps::undo);
    }
}
