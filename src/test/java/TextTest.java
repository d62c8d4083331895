/** Promises 1 to 5: a new object, append, clearText, errorPosition, load. */
public final class TextTest {
    private static final Check CHECK = new Check();

    public static void main(String[] args) {
        newObject();
        append();
        clearText();
        errorPositions();
        shortTexts();
        load();
        loadForgets();
        sweptAway();
        loadRefused();
        leftOut();
        CHECK.end();
    }

    private static void newObject() {
        ChairStamps x = new ChairStamps();
        CHECK.sameState("promise 1: a new object", x, " 0 1 0 0 0 0 0 0 0 0 0 / floor 0 0 0 0 / bounds"
            + " 400 500 4 12 400 500 4 12 400 500 4 12 400 500 4 12 / settings 5 60");
        CHECK.same("promise 1: text", x.clearText(), 0);
        CHECK.same("promise 1: sound", x.sound(), 0);
        CHECK.refused("promise 1: undo", Check.STATE, x::undo);
        CHECK.refused("promise 1: restore(0)", Check.STATE, () -> x.restore(0));
        CHECK.refused("promise 1: restore(1)", Check.STATE, () -> x.restore(1));
        CHECK.same("NONE", ChairStamps.NONE, -1);
    }

    private static void append() {
        ChairStamps x = new ChairStamps();
        CHECK.same("promise 2: code 0", x.append(0), 1);
        CHECK.same("promise 2: code 255", x.append(255), 2);
        CHECK.refused("promise 2: code -1", Check.ARGUMENT, () -> x.append(-1));
        CHECK.refused("promise 2: code 256", Check.ARGUMENT, () -> x.append(256));
        for (int i = 3; i <= 120; i++) {
            CHECK.same("promise 2: append", x.append('7'), i);
        }
        CHECK.refused("promise 2: the 121st", Check.STATE, () -> x.append('7'));
        CHECK.refused("promise 2: both", Check.ARGUMENT, () -> x.append(256));
        CHECK.refused("promise 2: both, below", Check.ARGUMENT, () -> x.append(Integer.MIN_VALUE));
        CHECK.same("promise 2: the length stays", x.clearText(), 120);
        CHECK.same("promise 2: is no action", x.append('K'), 1);
        CHECK.refused("promise 2: nothing to undo", Check.STATE, x::undo);
    }

    private static void clearText() {
        ChairStamps x = new ChairStamps();
        CHECK.same("promise 3: nothing there", x.clearText(), 0);
        Check.write(x, "Kt");
        CHECK.same("promise 3: two there", x.clearText(), 2);
        CHECK.same("promise 3: again", x.clearText(), 0);
        CHECK.same("promise 3: error then", x.errorPosition(), 0);
        x.append('K');
        CHECK.same("promise 3: the old text is gone", x.errorPosition(), ChairStamps.NONE);
    }

    private static void error(String text, int due) {
        ChairStamps x = new ChairStamps();
        Check.write(x, text);
        CHECK.same("promise 4: " + text, x.errorPosition(), due);
        CHECK.same("promise 4: length of " + text, x.clearText(), text.length());
    }

    private static void errorPositions() {
        String[] good = {"K", "Kc0100", "Kc3900", "Ks03001", "Ks93800", "Kh0001", "Kh9399", "Kf00000000", "Kf50505050",
            "Kb000", "Kb933", "Kt0", "Kt9", "Kw0001", "Kw9200", "Kg00000", "Kg33900", "Kg22899",
            "Kt0t1c0450c0899s00799h0010f49094900w0199w0010w0100w0099"};
        for (String text : good) {
            error(text, ChairStamps.NONE);
        }
        error("", 0);
        error("k", 0);
        error(" K", 0);
        error("tK", 0);
        error("KK", 1);
        error("K ", 1);
        error("Kx", 1);
        error("K\u0000", 1);
        error("K\u00e9", 1);
        error("Kt0 ", 3);
        error("Kt0K", 3);
        error("Kta", 2);
        error("Kt/", 2);
        error("Kt:", 2);
        error("Kc4", 2);
        error("Kc0099", 3);
        error("Kc0901", 5);
        error("Kc091", 4);
        error("Kc0a", 3);
        error("Ks04", 3);
        error("Ks00000", 6);
        error("Ks00801", 6);
        error("Ks0081", 5);
        error("Ks009", 4);
        error("Kh04", 3);
        error("Kh0000", 5);
        error("Kf51", 3);
        error("Kf6", 2);
        error("Kf0051", 5);
        error("Kf000051", 7);
        error("Kf006", 4);
        error("Kf00000051", 9);
        error("Kb04", 3);
        error("Kb004", 4);
        error("Kw0000", 5);
        error("Kw0201", 5);
        error("Kw021", 4);
        error("Kw03", 3);
        error("Kg4", 2);
        error("Kg04", 3);
        error("Kg00901", 6);
        error("Kg0091", 5);
        error("Kt0x1", 3);
    }

    /** A text that ends within a command has its error at its length. */
    private static void shortTexts() {
        String[] whole = {"c0450", "s90800", "h9399", "f50505050", "b933", "t9", "w9200", "g33900"};
        for (String command : whole) {
            for (int i = 1; i < command.length(); i++) {
                String text = "Kt1" + command.substring(0, i);
                error(text, text.length());
            }
            error("Kt1" + command + command, ChairStamps.NONE);
        }
        StringBuilder full = new StringBuilder("K");
        while (full.length() < 119) {
            full.append("t0");
        }
        error(full + "t", 120);
        error(full + "x", 119);
        error(full.substring(0, 115) + "c0100", ChairStamps.NONE);
    }

    private static void load() {
        ChairStamps x = new ChairStamps();
        Check.write(x, "Kc0450c1480f03000004t0t1s01003h1205b010w0130t0g02001g12100");
        CHECK.same("promise 5: load", x.load(), 0);
        // On the floor 1 the chair 0 has the reaches 447, 447, 450, 446: the leg 3 is idle, the
        // others wear by 130 / 60; then it wobbles by 2, until the bound becomes 1.
        CHECK.sameState("promise 5: the state", x, " 2 2 0 3 3 3 15 1 3 5 6"
            + " / chair 0 1 0 3 447 1 0 1 1 448 445 448 450"
            + " / chair 1 0 0 5 481 1 0 0 0 480 480 485 480"
            + " / floor 0 0 0 0 / floor 3 0 0 4"
            + " / bounds 400 500 1 12 400 500 100 12 400 500 4 12 400 500 4 12 / settings 5 60");
    }

    private static void loadForgets() {
        ChairStamps x = new ChairStamps();
        x.chair(0, 450);
        x.floor(1, 2, 3, 4);
        x.test(0);
        x.set(0, 7);
        x.set(1, 8);
        x.bound(1, 0, 300);
        x.level(0, 1, 9);
        x.level(0, 0, 9);
        x.sit(0, 1);
        x.level(0, 1, 0);
        x.level(0, 0, 0);
        x.bring(0, 1, 3);
        x.test(0);
        x.save(0);
        x.save(1);
        x.level(0, 0, 9);
        x.level(0, 3, 9);
        Check.write(x, "K");
        CHECK.same("promise 5: an office without commands", x.load(), 0);
        CHECK.sameState("promise 5: as a new object", x, Check.all(new ChairStamps()));
        CHECK.refused("promise 5: no state is remembered", Check.STATE, x::undo);
        CHECK.refused("promise 5: slot 0 is empty", Check.STATE, () -> x.restore(0));
        CHECK.refused("promise 5: slot 1 is empty", Check.STATE, () -> x.restore(1));
        CHECK.same("promise 5: the text is kept", x.clearText(), 1);
        CHECK.same("promise 5: none is sound", x.sound(), 0);
        x.chair(1, 460);
        CHECK.same("promise 5: the chair that was there is gone", x.save(0), 0);
        for (int i = 0; i <= 8; i++) {
            CHECK.same("promise 5: a chair then", x.chairOf(0, i), new int[] {1, 0, 0, 0, 460, -1, 0, 0, 0}[i]);
        }
        ChairStamps y = Check.loaded("Kc0450t0");
        CHECK.refused("promise 5: commands are not remembered", Check.STATE, y::undo);
        CHECK.same("promise 5: load again", y.load(), 0);
        CHECK.same("promise 5: from the beginning", y.about(0), 1);
        CHECK.same("promise 5: tests from the beginning", y.about(3), 1);
    }

    /** Chairs that a load has swept away are not counted, nor do their stamps become void. */
    private static void sweptAway() {
        ChairStamps x = new ChairStamps();
        x.chair(0, 450);
        x.test(0);
        Check.write(x, "K");
        x.load();
        CHECK.same("promise 5: no stamp is left", x.about(2), 0);
        x.level(0, 0, 1);
        CHECK.same("promise 15: no stamp to become void", x.about(5), 0);
        CHECK.same("promise 21: no stamp to become void", x.bound(0, 0, 900), 0);
        CHECK.same("promise 28: no chair is left", x.sound(), 0);
    }

    private static void loadRefused() {
        ChairStamps x = new ChairStamps();
        CHECK.refused("promise 5: no text", Check.STATE, x::load);
        x.chair(0, 450);
        x.test(0);
        x.save(1);
        String before = Check.all(x);
        Check.write(x, "Kc0450c");
        CHECK.refused("promise 5: not an office", Check.STATE, x::load);
        CHECK.sameState("promise 5: nothing changes", x, before);
        CHECK.same("promise 5: the text is kept", x.clearText(), 7);
        CHECK.same("promise 5: slots are kept", x.restore(1), 1);
        x.sit(0, 1);
        Check.write(x, "Kx");
        CHECK.refused("promise 5: not an office either", Check.STATE, x::load);
        CHECK.same("promise 5: remembered states are kept", x.undo(), 0);
    }

    private static void leftOut() {
        ChairStamps x = new ChairStamps();
        Check.write(x, "Ks00001c0100s00001h9001b900t9w9001g02101g03201g00099g01099b010w0001");
        CHECK.same("promise 5: left out", x.load(), 11);
        CHECK.same("promise 5: the others are done", x.about(7), 1);
        CHECK.same("promise 5: nothing left out changes", x.boundOf(0, 3), 12);
        Check.write(x, "Kf00000000f00000000f00000001f00000002c0900h0001s00800s00001");
        CHECK.same("promise 5: too many floors, too long, too short", x.load(), 3);
        CHECK.same("promise 5: four floors", x.about(1), 4);
        CHECK.same("promise 5: the leg", x.legOf(0, 0, 0), 100);
        Check.write(x, "Kc0100c0100c0100c0100c0100c0100c0100c0100c0100c0100c0100c0100");
        CHECK.same("promise 5: too many chairs", x.load(), 2);
        CHECK.same("promise 5: ten chairs", x.about(0), 10);
    }
}
