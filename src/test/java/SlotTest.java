/** Promises 31 and 32: save and restore. */
public final class SlotTest {
    private static final Check CHECK = new Check();

    public static void main(String[] args) {
        save();
        restore();
        slotsApart();
        undoAndSlots();
        refusals();
        CHECK.end();
    }

    private static ChairStamps office() {
        ChairStamps x = new ChairStamps();
        x.chair(0, 450);
        x.chair(2, 470);
        x.chair(1, 399);
        x.floor(3, 0, 0, 1);
        x.bring(1, 1, 2);
        for (int c = 0; c < 3; c++) {
            x.test(c);
        }
        return x;
    }

    private static void save() {
        ChairStamps x = new ChairStamps();
        CHECK.same("promise 31: no chairs", x.save(0), 0);
        ChairStamps y = office();
        String before = Check.all(y);
        CHECK.same("promise 31: the stamped chairs", y.save(1), 2);
        CHECK.sameState("promise 31: the state stays", y, before);
        CHECK.same("promise 31: it is no action", y.undo(), 7);
    }

    private static void restore() {
        ChairStamps x = office();
        x.set(0, 9);
        x.set(1, 9);
        x.bound(3, 3, 9);
        x.level(1, 2, 9);
        x.sit(2, 80);
        x.test(0);
        x.test(1);
        String saved = Check.all(x);
        x.save(0);
        x.chair(0, 450);
        x.floor(1, 1, 1, 1);
        x.set(0, 1);
        x.set(1, 1);
        x.bound(3, 3, 1);
        x.level(1, 2, 1);
        x.sit(0, 80);
        x.bring(1, 0, 0);
        x.test(2);
        for (int i = 0; i < 2; i++) {
            CHECK.same("promise 32: the stamped chairs then", x.restore(0), 1);
            CHECK.sameState("promise 32: the saved state", x, saved);
            CHECK.refused("promise 32: forgets the remembered states", Check.STATE, x::undo);
            // The slot keeps it, whatever happens to the state.
            x.saw(0, 1, 5);
            x.test(1);
        }
    }

    private static void slotsApart() {
        ChairStamps x = new ChairStamps();
        x.chair(0, 450);
        x.save(0);
        CHECK.refused("promise 32: the other one is empty", Check.STATE, () -> x.restore(1));
        x.test(0);
        CHECK.same("promise 31: one stamp", x.save(1), 1);
        CHECK.same("promise 32: slot 0", x.restore(0), 0);
        CHECK.same("promise 32: tests then", x.about(3), 0);
        CHECK.same("promise 32: slot 1", x.restore(1), 1);
        CHECK.same("promise 32: tests then", x.about(3), 1);
        x.saw(0, 0, 5);
        CHECK.same("promise 31: saved over", x.save(0), 0);
        x.restore(1);
        x.restore(0);
        CHECK.same("promise 32: the later one", x.legOf(0, 0, 0), 445);
    }

    private static void undoAndSlots() {
        ChairStamps x = new ChairStamps();
        x.chair(0, 450);
        x.save(1);
        x.undo();
        CHECK.same("promise 31: undo leaves the slots", x.restore(1), 0);
        CHECK.same("promise 32: the chair is back", x.about(0), 1);
        x.test(0);
        CHECK.same("promise 32: undo goes on from there", x.undo(), 0);
        CHECK.same("promise 32: not tested", x.about(3), 0);
        Check.write(x, "Kc0450t0");
        x.save(0);
        x.clearText();
        x.restore(0);
        CHECK.same("promise 32: the text is no part of it", x.clearText(), 0);
    }

    private static void refusals() {
        ChairStamps x = office();
        String before = Check.all(x);
        CHECK.refused("promise 31: slot -1", Check.INDEX, () -> x.save(-1));
        CHECK.refused("promise 31: slot 2", Check.INDEX, () -> x.save(2));
        CHECK.refused("promise 32: slot -1", Check.INDEX, () -> x.restore(-1));
        CHECK.refused("promise 32: slot 2", Check.INDEX, () -> x.restore(2));
        CHECK.refused("promise 32: nothing there", Check.STATE, () -> x.restore(0));
        CHECK.refused("promise 32: nothing there", Check.STATE, () -> x.restore(1));
        CHECK.sameState("promise 32: nothing changes", x, before);
        CHECK.same("promise 32: all is remembered still", x.undo(), 7);
    }
}
