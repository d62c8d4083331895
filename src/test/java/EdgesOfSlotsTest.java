/** Promises 31 and 32: save and restore. */
public final class EdgesOfSlotsTest {
    public static void main(String[] args) {
        Edges.run(EdgesOfSlotsTest.class);
    }

    /** Both slots are saved: in the slot 0 one chair of 450, in the slot 1 two stamped ones. */
    private static ChairStamps bothSaved() {
        ChairStamps x = new ChairStamps();
        x.chair(0, 450);
        x.save(0);
        x.chair(1, 460);
        x.test(0);
        x.test(1);
        x.save(1);
        x.saw(0, 0, 9);
        return x;
    }

    private static final String BOUNDS = " / floor 0 0 0 0 / bounds"
        + " 400 500 4 12 400 500 4 12 400 500 4 12 400 500 4 12 / settings 5 60";
    private static final String IN_ZERO = " 1 1 0 0 0 0 0 0 0 0 0 / chair 0 0 0 0 450 -1 0 0 0 450 450 450 450" + BOUNDS;
    private static final String IN_ONE = " 2 1 2 2 2 0 10 0 0 0 0 / chair 0 0 0 0 450 -1 1 0 0 450 450 450 450"
        + " / chair 1 0 0 0 460 -1 1 0 0 460 460 460 460" + BOUNDS;

    @Says(promise = 31, sentence = "Stores the present state in a save slot.")
    static void stored(Check check) {
        ChairStamps x = bothSaved();
        x.restore(0);
        check.sameState("the slot 0", x, IN_ZERO);
        x.restore(1);
        check.sameState("the slot 1", x, IN_ONE);
        x.save(0);
        x.restore(0);
        check.sameState("the slot 0, saved over", x, IN_ONE);
        ChairStamps y = Offices.full();
        String full = Check.all(y);
        y.save(1);
        y.load();
        y.save(0);
        check.refused("a slot saved before the last load", Check.STATE, () -> y.restore(1));
        ChairStamps z = Offices.full();
        z.save(1);
        z.bring(9, 3, 3);
        z.set(1, 1);
        z.restore(1);
        check.sameState("ten chairs and four floors", z, full);
    }

    @Says(promise = 31, sentence = "Stores the present state in a save slot.")
    static void savingChangesTheSlotAlone(Check check) {
        ChairStamps x = Offices.busy();
        x.save(1);
        check.sameState("the state", x, Check.all(Offices.busy()));
        check.same("what is remembered", x.undo(), 13);
        check.same("the text", x.clearText(), Offices.TEXT.length());
        x.restore(0);
        check.same("the other slot", x.setting(0), 5);
        x.restore(1);
        check.same("this slot", x.setting(0), 13);
    }

    @Says(promise = 31, sentence = "slot: 0 or 1")
    static void slotsToSave(Check check) {
        ChairStamps x = new ChairStamps();
        x.save(0);
        check.refused("the other slot", Check.STATE, () -> x.restore(1));
        ChairStamps y = new ChairStamps();
        y.save(1);
        check.refused("the other slot", Check.STATE, () -> y.restore(0));
    }

    @Says(promise = 31, sentence = "Returns the stamped chairs.")
    static void stampedWhenSaved(Check check) {
        ChairStamps x = new ChairStamps();
        check.same("no chair", x.save(0), 0);
        for (int c = 0; c < 10; c++) {
            x.chair(0, 450);
            check.same("not yet stamped", x.save(c % 2), c);
            x.test(c);
            check.same("stamped", x.save(c % 2), c + 1);
        }
        x.bound(0, 0, 900);
        check.same("all void", x.save(0), 0);
    }

    @Says(promise = 31, sentence = "Throws IndexOutOfBoundsException if there is no such save slot")
    static void saveInNoSlot(Check check) {
        check.range(Check.INDEX, Offices::busy, 0, 1, ChairStamps::save);
        check.range(Check.INDEX, EdgesOfSlotsTest::bothSaved, 0, 1, ChairStamps::save);
    }

    @Says(promise = 32, sentence = "Replaces the state by the one in a save slot, and forgets all remembered states.")
    static void restored(Check check) {
        ChairStamps x = bothSaved();
        check.same("the slot 0", x.restore(0), 0);
        check.sameState("the state", x, IN_ZERO);
        check.refused("nothing is remembered", Check.STATE, x::undo);
        x.set(0, 50);
        check.same("remembered from there", x.undo(), 0);
        check.sameState("the state again", x, IN_ZERO);
        x.append('K');
        x.restore(1);
        check.same("the text is not replaced", x.clearText(), 1);
        for (int i = 0; i < 20; i++) {
            x.set(0, i);
        }
        x.restore(1);
        check.refused("none of 14 is remembered", Check.STATE, x::undo);
    }

    @Says(promise = 32, sentence = "The save slot keeps it.")
    static void kept(Check check) {
        ChairStamps x = bothSaved();
        for (int i = 0; i < 3; i++) {
            x.restore(1);
            check.sameState("the slot 1", x, IN_ONE);
            x.saw(1, 3, 9);
            x.level(0, 0, 9);
            x.bound(1, 0, 900);
            x.set(0, 9);
        }
        x.restore(0);
        check.sameState("the slot 0", x, IN_ZERO);
        x.test(0);
        x.undo();
        x.restore(0);
        check.sameState("the slot 0 behind undo", x, IN_ZERO);
    }

    @Says(promise = 32, sentence = "slot: 0 or 1")
    static void slotsToRestore(Check check) {
        ChairStamps x = bothSaved();
        x.restore(1);
        check.same("the chairs of the slot 1", x.about(0), 2);
        x.restore(0);
        check.same("the chairs of the slot 0", x.about(0), 1);
    }

    @Says(promise = 32, sentence = "Returns the stamped chairs then.")
    static void stampedWhenRestored(Check check) {
        ChairStamps x = bothSaved();
        check.same("none", x.restore(0), 0);
        check.same("two", x.restore(1), 2);
        ChairStamps y = new ChairStamps();
        for (int c = 0; c < 10; c++) {
            y.chair(0, 450);
            y.test(c);
        }
        y.save(0);
        y.bound(0, 0, 900);
        check.same("all ten, though void meanwhile", y.restore(0), 10);
    }

    @Says(promise = 32, sentence = "Throws IndexOutOfBoundsException if there is no such save slot")
    static void restoreFromNoSlot(Check check) {
        check.range(Check.INDEX, EdgesOfSlotsTest::bothSaved, 0, 1, ChairStamps::restore);
        check.refusedLeaving("and nothing is saved", Check.INDEX, ChairStamps::new, x -> x.restore(2));
        check.refusedLeaving("and nothing is saved", Check.INDEX, ChairStamps::new, x -> x.restore(-1));
    }

    @Says(promise = 32, sentence = "Throws IllegalStateException if nothing has been saved in it since the last load")
    static void nothingSaved(Check check) {
        check.refusedLeaving("the slot 0 of a new object", Check.STATE, ChairStamps::new, x -> x.restore(0));
        check.refusedLeaving("the slot 1 of a new object", Check.STATE, ChairStamps::new, x -> x.restore(1));
        check.refusedLeaving("the slot 1, only 0 is saved", Check.STATE, Offices::busy, x -> x.restore(1));
        Check.Make loaded = () -> {
            ChairStamps x = bothSaved();
            Check.write(x, "K");
            x.load();
            return x;
        };
        check.refusedLeaving("the slot 0 behind load", Check.STATE, loaded, x -> x.restore(0));
        check.refusedLeaving("the slot 1 behind load", Check.STATE, loaded, x -> x.restore(1));
        ChairStamps x = bothSaved();
        check.refused("load of no text", Check.STATE, x::load);
        check.same("the slot behind a load that throws", x.restore(1), 2);
        ChairStamps y = loaded.office();
        y.save(1);
        check.same("saved since the load", y.restore(1), 0);
    }
}
