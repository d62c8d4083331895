/** Terms: the text; promises 1 to 5. */
public final class EdgesOfTextTest {
    private static final String LETTERS = "cshfbtwg";

    public static void main(String[] args) {
        Edges.run(EdgesOfTextTest.class);
    }

    private static ChairStamps with(String text) {
        ChairStamps x = new ChairStamps();
        Check.write(x, text);
        return x;
    }

    private static int error(String text) {
        return with(text).errorPosition();
    }

    private static String times(String command, int times) {
        return "K" + command.repeat(times);
    }

    private static String digits(int number, int width) {
        StringBuilder out = new StringBuilder(Integer.toString(number));
        while (out.length() < width) {
            out.insert(0, '0');
        }
        return out.toString();
    }

    /** Behind the start only the digits up to the most are allowed, of all characters. */
    private static void oneDigit(Check check, String start, int most) {
        for (int code = 0; code <= 255; code++) {
            ChairStamps x = with(start);
            x.append(code);
            boolean allowed = code >= '0' && code <= '0' + most;
            int error = x.errorPosition();
            check.same("the character " + code + " behind " + start, error == start.length() ? 0 : 1, allowed ? 1 : 0);
        }
    }

    /** Each number of so many digits is allowed just if it is from least to most. */
    private static void numbers(Check check, String start, int width, int least, int most, String end) {
        int all = width == 2 ? 100 : 1000;
        for (int number = 0; number < all; number++) {
            String text = start + digits(number, width) + end;
            int due = ChairStamps.NONE;
            for (int i = width; i >= 1; i--) {
                int unit = i == width ? 1 : i == width - 1 ? 10 : 100;
                int lowest = number / unit * unit;
                if (lowest > most || lowest + unit - 1 < least) {
                    due = start.length() + i - 1;
                }
            }
            check.same(text, error(text), due);
        }
    }

    /** Loads all but the last command, does it by a call, and compares with the whole text. */
    private static void does(Check check, String before, String command, Check.Use call) {
        ChairStamps x = Check.loaded("Kc0450c1480f03000004" + before);
        call.on(x);
        ChairStamps y = with("Kc0450c1480f03000004" + before + command);
        check.same(command + " left out", y.load(), 0);
        check.sameState(command, y, Check.all(x));
    }

    @Says(sentence = "The object has a text buffer of at most 120 characters.")
    static void longestText(Check check) {
        ChairStamps x = with("K");
        for (int i = 2; i <= 120; i++) {
            check.same("the length then", x.append('7'), i);
        }
        check.refused("the character 121", Check.STATE, () -> x.append('7'));
        check.same("the length", x.clearText(), 120);
        for (int i = 1; i <= 120; i++) {
            check.same("the length again", x.append('t'), i);
        }
        check.refused("the character 121 again", Check.STATE, () -> x.append('t'));
    }

    @Says(sentence = "An office as a text is the letter K, and then any number of commands")
    static void theFirstLetter(Check check) {
        for (int code = 0; code <= 255; code++) {
            ChairStamps x = new ChairStamps();
            x.append(code);
            check.same("the character " + code + " alone", x.errorPosition(), code == 'K' ? -1 : 0);
        }
        for (int code = 0; code <= 255; code++) {
            ChairStamps x = with("K");
            x.append(code);
            check.same("the character " + code + " behind K", x.errorPosition(), LETTERS.indexOf(code) >= 0 ? 2 : 1);
            ChairStamps y = with("Kt0");
            y.append(code);
            check.same("the character " + code + " behind Kt0", y.errorPosition(), LETTERS.indexOf(code) >= 0 ? 4 : 3);
        }
    }

    @Says(sentence = "An office as a text is the letter K, and then any number of commands")
    static void anyNumberOfCommands(Check check) {
        check.same("no character", error(""), 0);
        for (int n = 0; n <= 59; n++) {
            check.same(n + " commands", error(times("t0", n)), -1);
        }
        // The longest text that is an office: 1 + 57 * 2 + 5 characters.
        check.same("120 characters", error(times("t0", 57) + "c0450"), -1);
        check.same("120 characters are loaded", with("Kc0450" + "t0".repeat(57)).load(), 0);
    }

    @Says(sentence = "a chair, a leg, a spot, a floor and a guild are one digit each (0 to 9, 0 to 3, 0 to 3, 0 to 3, 0 to 3):")
    static void thingsOfOneDigit(Check check) {
        for (String chair : new String[] {"Ks", "Kh", "Kb", "Kt", "Kw"}) {
            oneDigit(check, chair, 9);
        }
        for (String leg : new String[] {"Ks9", "Kh9"}) {
            oneDigit(check, leg, 3);
        }
        for (String floor : new String[] {"Kb0", "Kb9"}) {
            oneDigit(check, floor, 3);
        }
        for (String guild : new String[] {"Kc", "Kg"}) {
            oneDigit(check, guild, 3);
        }
    }

    @Says(sentence = "c, a guild, and three digits for the length of all legs (100 to 900): chair()")
    static void commandC(Check check) {
        numbers(check, "Kc3", 3, 100, 900, "");
        numbers(check, "Kt0c0", 3, 100, 900, "t0");
        does(check, "", "c0100", x -> x.chair(0, 100));
        does(check, "", "c3900", x -> x.chair(3, 900));
    }

    @Says(sentence = "s, a chair, a leg, and three digits (001 to 800): saw()")
    static void commandS(Check check) {
        numbers(check, "Ks93", 3, 1, 800, "");
        numbers(check, "Kt0s00", 3, 1, 800, "t0");
        does(check, "", "s00001", x -> x.saw(0, 0, 1));
        does(check, "c2900", "s23800", x -> x.saw(2, 3, 800));
    }

    @Says(sentence = "h, a chair, a leg, and two digits (01 to 99): shim()")
    static void commandH(Check check) {
        numbers(check, "Kh93", 2, 1, 99, "");
        numbers(check, "Kt0h00", 2, 1, 99, "t0");
        does(check, "", "h0001", x -> x.shim(0, 0, 1));
        does(check, "c2801", "h2399", x -> x.shim(2, 3, 99));
    }

    @Says(sentence = "f and four times two digits (00 to 50): floor()")
    static void commandF(Check check) {
        numbers(check, "Kf", 2, 0, 50, "000000");
        numbers(check, "Kf50", 2, 0, 50, "5050");
        numbers(check, "Kf0000", 2, 0, 50, "00");
        numbers(check, "Kf505050", 2, 0, 50, "");
        does(check, "", "f00000000", x -> x.floor(0, 0, 0, 0));
        does(check, "", "f50010249", x -> x.floor(50, 1, 2, 49));
        does(check, "", "f00000050", x -> x.floor(0, 0, 0, 50));
    }

    @Says(sentence = "b, a chair, a floor, and a digit for quarters (0 to 3): bring()")
    static void commandB(Check check) {
        oneDigit(check, "Kb93", 3);
        oneDigit(check, "Kt0b00", 3);
        does(check, "", "b000", x -> x.bring(0, 0, 0));
        does(check, "", "b113", x -> x.bring(1, 1, 3));
    }

    @Says(sentence = "t and a chair: test()")
    static void commandT(Check check) {
        oneDigit(check, "Kt0t", 9);
        does(check, "", "t0", x -> x.test(0));
        does(check, "c0100", "t2", x -> x.test(2));
    }

    @Says(sentence = "w, a chair, and three digits for a weight (001 to 200): sit()")
    static void commandW(Check check) {
        numbers(check, "Kw9", 3, 1, 200, "");
        numbers(check, "Kt0w0", 3, 1, 200, "t0");
        does(check, "", "w0001", x -> x.sit(0, 1));
        does(check, "", "w1200", x -> x.sit(1, 200));
    }

    @Says(sentence = "g, a guild, a digit for a bound (0 to 3), and three digits (000 to 900): bound().")
    static void commandG(Check check) {
        oneDigit(check, "Kg0", 3);
        oneDigit(check, "Kg3", 3);
        numbers(check, "Kg33", 3, 0, 900, "");
        numbers(check, "Kt0g00", 3, 0, 900, "t0");
        does(check, "", "g00900", x -> x.bound(0, 0, 900));
        does(check, "", "g32000", x -> x.bound(3, 2, 0));
    }

    @Says(sentence = "Commands that would throw an exception are left out.")
    static void leftOutCommands(Check check) {
        String[] thrown = {"s20001", "s00351", "h2001", "b200", "b020", "t2", "w2001", "g00099", "g01099",
            "g02101", "g03201", "g01000"};
        String before = Check.all(Check.loaded("Kc0450c1480f03000004"));
        for (String command : thrown) {
            ChairStamps x = with("Kc0450c1480f03000004" + command + command);
            check.same(command + " twice", x.load(), 2);
            check.sameState(command, x, before);
        }
        ChairStamps chairs = with(times("c0450", 11));
        check.same("an eleventh chair", chairs.load(), 1);
        check.same("chairs then", chairs.about(0), 10);
        ChairStamps floors = with(times("f01010101", 4));
        check.same("a fifth floor", floors.load(), 1);
        check.same("floors then", floors.about(1), 4);
        ChairStamps legs = with("Kc0101s00001s00001c0899h1001h1001");
        check.same("one sawn and one shimmed too far", legs.load(), 2);
        check.same("the sawn leg", legs.legOf(0, 0, 0), 100);
        check.same("the shimmed leg", legs.legOf(1, 0, 0), 900);
        ChairStamps bounds = with("Kg00100g01900g02100g03200g02000g03000");
        check.same("the ends of the bounds", bounds.load(), 0);
    }

    @Says(sentence = "There are no blanks.")
    static void noBlanks(Check check) {
        check.same("before K", error(" K"), 0);
        check.same("behind K", error("K "), 1);
        check.same("between commands", error("Kt0 t0"), 3);
        check.same("behind the last command", error("Kt0 "), 3);
        check.same("behind a letter", error("Kc 0450"), 2);
        check.same("between numbers", error("Kc0 450"), 3);
        check.same("in a number", error("Kc04 50"), 4);
        check.same("a tab", error("K\t"), 1);
        check.same("a line feed", error("Kt0\n"), 3);
    }

    @Says(sentence = "The text is read from left to right.")
    static void leftToRight(Check check) {
        ChairStamps x = with("Kt0c0450t0s00350s00001h0099");
        check.same("left out by their order", x.load(), 2);
        check.same("tested after it came", x.about(3), 1);
        check.same("sawn, then shimmed", x.legOf(0, 0, 0), 199);
        check.same("the first of two errors", error("KxKy"), 1);
        check.same("the first of two errors in a command", error("Kc44"), 2);
    }

    @Says(sentence = "The error position is the index of the first character that these rules do not allow at its place")
    static void errorsAtEachIndex(Check check) {
        String good = times("t0", 57) + "c0450";
        for (int i = 0; i < good.length(); i++) {
            String bad = good.substring(0, i) + 'x' + good.substring(i + 1);
            check.same("an x at " + i, error(bad), i);
        }
        check.same("a second K", error("KK"), 1);
        check.same("a number too long", error("Kt00"), 3);
    }

    @Says(sentence = "(a digit is not allowed if no number that is allowed begins with it and those before it)")
    static void digitsOfNoNumber(Check check) {
        String[] texts = {"Kc00", "Kc01", "Kc09", "Kc090", "Kc0900", "Kc0901", "Kc091", "Ks0000", "Ks00000", "Ks00001",
            "Ks00080", "Ks00800", "Ks00801", "Ks0081", "Ks009", "Kh000", "Kh0000", "Kh0001", "Kf5", "Kf50", "Kf51",
            "Kf6", "Kw000", "Kw0000", "Kw0001", "Kw020", "Kw0200", "Kw0201", "Kw021", "Kw03", "Kg000", "Kg00000",
            "Kg0090", "Kg00900", "Kg00901", "Kg0091"};
        int[] due = {3, 4, 4, 5, -1, 5, 4, 6, 6, -1,
            -1, -1, 6, 5, 4, 5, 5, -1, 3, 4, 3,
            2, 5, 5, -1, 5, -1, 5, 4, 3, 5, -1,
            6, -1, 6, 5};
        for (int i = 0; i < texts.length; i++) {
            check.same(texts[i], error(texts[i]), due[i]);
        }
    }

    @Says(sentence = "if the text ends too soon, it is the length of the text.")
    static void textsTooShort(Check check) {
        check.same("the empty text", error(""), 0);
        for (String command : new String[] {"c0450", "s93800", "h9399", "f50505050", "b933", "t9", "w9200", "g33900"}) {
            for (int i = 1; i < command.length(); i++) {
                String text = "Kt1" + command.substring(0, i);
                check.same(text, error(text), text.length());
            }
            check.same("all of " + command, error("Kt1" + command), -1);
        }
        check.same("a full text that ends too soon", error(times("t0", 59) + "t"), 120);
        check.same("a full text with an error at its end", error(times("t0", 59) + "x"), 119);
    }

    @Says(promise = 1, sentence = "Creates an office without chairs.")
    static void aNewObject(Check check) {
        ChairStamps x = new ChairStamps();
        check.sameState("a new object", x, " 0 1 0 0 0 0 0 0 0 0 0 / floor 0 0 0 0 / bounds"
            + " 400 500 4 12 400 500 4 12 400 500 4 12 400 500 4 12 / settings 5 60");
        check.refused("the chair 0", Check.INDEX, () -> x.chairOf(0, 0));
        check.refused("undo", Check.STATE, x::undo);
        check.refused("restore(0)", Check.STATE, () -> x.restore(0));
        check.refused("restore(1)", Check.STATE, () -> x.restore(1));
        check.same("the set of sound chairs", x.sound(), 0);
        check.same("the length of the text", x.clearText(), 0);
    }

    @Says(promise = 2, sentence = "Appends a character to the text buffer.")
    static void appended(Check check) {
        ChairStamps x = new ChairStamps();
        x.append('K');
        check.same("an office", x.errorPosition(), -1);
        x.append('t');
        check.same("too short", x.errorPosition(), 2);
        x.append('9');
        check.same("an office again", x.errorPosition(), -1);
        x.append('9');
        check.same("at its end", x.errorPosition(), 3);
        ChairStamps y = Offices.busy();
        y.append('t');
        check.sameState("the state stays", y, Check.all(Offices.busy()));
        check.same("it is no action", y.undo(), 13);
    }

    @Says(promise = 2, sentence = "c: character code, 0 to 255")
    static void codes(Check check) {
        ChairStamps x = new ChairStamps();
        for (int code = 0; code < 120; code++) {
            check.same("the code " + code, x.append(code), code + 1);
        }
        x.clearText();
        for (int code = 136; code <= 255; code++) {
            check.same("the code " + code, x.append(code), code - 135);
        }
    }

    @Says(promise = 2, sentence = "Returns the new length of the text.")
    static void lengthsOfTexts(Check check) {
        ChairStamps x = new ChairStamps();
        for (int i = 1; i <= 120; i++) {
            check.same("the length", x.append('t'), i);
        }
        x.clearText();
        check.same("the first character again", x.append('t'), 1);
    }

    @Says(promise = 2, sentence = "Throws IllegalArgumentException if c is out of range")
    static void wrongCodes(Check check) {
        check.range(Check.ARGUMENT, Offices::busy, 0, 255, (x, c) -> x.append(c));
        check.refusedLeaving("and the text is full", Check.ARGUMENT, Offices::fullText, x -> x.append(256));
        check.refusedLeaving("and the text is full", Check.ARGUMENT, Offices::fullText, x -> x.append(-1));
    }

    @Says(promise = 2, sentence = "Throws IllegalStateException if the text already has 120 characters")
    static void fullText(Check check) {
        for (int code : new int[] {0, 'K', 255}) {
            check.refusedLeaving("the 121st character", Check.STATE, Offices::fullText, x -> x.append(code));
        }
        ChairStamps x = with("7".repeat(119));
        check.same("the 120th character", x.append('7'), 120);
    }

    @Says(promise = 3, sentence = "Empties the text buffer.")
    static void emptied(Check check) {
        ChairStamps x = Offices.fullText();
        x.clearText();
        check.same("the error position then", x.errorPosition(), 0);
        check.refused("load then", Check.STATE, x::load);
        check.same("the next character is the first", x.append('K'), 1);
        check.same("nothing of the old text is there", x.errorPosition(), -1);
        ChairStamps y = Offices.busy();
        y.clearText();
        check.sameState("the state stays", y, Check.all(Offices.busy()));
        check.same("it is no action", y.undo(), 13);
    }

    @Says(promise = 3, sentence = "Returns the previous length of the text.")
    static void lengthsBefore(Check check) {
        check.same("an empty text", new ChairStamps().clearText(), 0);
        check.same("one character", with("x").clearText(), 1);
        ChairStamps x = Offices.fullText();
        check.same("a full text", x.clearText(), 120);
        check.same("emptied before", x.clearText(), 0);
    }

    @Says(promise = 4, sentence = "Checks the text.")
    static void checked(Check check) {
        check.changesNothing("a text that is an office", Offices::busy, ChairStamps::errorPosition);
        check.changesNothing("a text that is none", Offices::fullText, ChairStamps::errorPosition);
        check.changesNothing("an empty text", ChairStamps::new, ChairStamps::errorPosition);
        ChairStamps x = with("Kt0x");
        check.same("once", x.errorPosition(), 3);
        check.same("twice", x.errorPosition(), 3);
    }

    @Says(promise = 4, sentence = "Returns the error position of the text; NONE if it is an office.")
    static void errorOrNone(Check check) {
        check.same("the shortest office", error("K"), ChairStamps.NONE);
        check.same("the longest office", error(times("t0", 57) + "c0450"), ChairStamps.NONE);
        check.same("commands that throw are an office too", error("Kt0g00000"), ChairStamps.NONE);
        check.same("the least error position", error("x"), 0);
        check.same("the greatest error position", error(times("t0", 59) + "t"), 120);
    }

    @Says(promise = 5, sentence = "Makes everything as in a new object, and then does the commands of the text.")
    static void madeNew(Check check) {
        ChairStamps x = Offices.full();
        for (int i = 0; i < 16; i++) {
            x.level(i / 4, i % 4, 1);
            x.bound(i / 4, i % 4, 100);
        }
        x.bring(0, 3, 3);
        x.sit(0, 1);
        Check.write(x, "K");
        check.same("no command", x.load(), 0);
        check.sameState("without commands", x, Check.all(new ChairStamps()));
        x.chair(2, 460);
        check.sameState("a chair then", x, Check.all(Check.loaded("Kc2460")));
        Check.write(x, "Kc0450t0");
        for (int i = 0; i < 3; i++) {
            x.load();
            check.same("chairs by each load", x.about(0), 1);
            check.same("tests by each load", x.about(3), 1);
            check.same("stamps by each load", x.about(4), 1);
        }
    }

    @Says(promise = 5, sentence = "Makes everything as in a new object, and then does the commands of the text.")
    static void chairsBeforeTheLoad(Check check) {
        for (int left = 0; left <= 9; left++) {
            ChairStamps x = Check.loaded("Kc0450t0c0450t1c0450t2c0450t3c0450t4c0450t5c0450t6c0450t7c0450t8c0450t9");
            Check.write(x, times("c0100", left));
            check.same(left + " chairs", x.load(), 0);
            check.same("no stamp is left", x.about(2), 0);
            check.same("none is sound", x.sound(), 0);
            check.same("none becomes void by a bound", x.bound(0, 0, 900), 0);
            x.level(0, 0, 1);
            check.same("nor by a spot", x.about(5), 0);
        }
    }

    @Says(promise = 5, sentence = "Behind it no state is remembered, and both save slots are empty.")
    static void nothingRemembered(Check check) {
        ChairStamps x = Offices.busy();
        x.save(0);
        x.save(1);
        x.load();
        check.refused("undo", Check.STATE, x::undo);
        check.refused("the slot 0", Check.STATE, () -> x.restore(0));
        check.refused("the slot 1", Check.STATE, () -> x.restore(1));
        x.set(0, 9);
        check.same("remembered from there", x.undo(), 0);
        check.refused("and no more", Check.STATE, x::undo);
        check.same("saved from there", x.save(1), 1);
        check.refused("and not the other slot", Check.STATE, () -> x.restore(0));
        check.same("restored from there", x.restore(1), 1);
    }

    @Says(promise = 5, sentence = "Keeps the text, also if it throws the exception.")
    static void textKept(Check check) {
        ChairStamps x = with("Kc0450");
        x.load();
        check.same("loaded again", x.load(), 0);
        x.append('t');
        check.refused("not an office", Check.STATE, x::load);
        check.same("the error position", x.errorPosition(), 7);
        check.same("goes on where it was", x.append('0'), 8);
        check.same("loaded with the rest", x.load(), 0);
        check.same("the test of the rest", x.about(3), 1);
        check.same("the length", x.clearText(), 8);
    }

    @Says(promise = 5, sentence = "Returns the number of commands that are left out.")
    static void numberLeftOut(Check check) {
        check.same("no command", with("K").load(), 0);
        check.same("none of one", with("Kc0450").load(), 0);
        check.same("the only one", with("Kt0").load(), 1);
        check.same("all of the most", with(times("t0", 59)).load(), 59);
        check.same("all but the first", with("Kc0450" + "t1".repeat(57)).load(), 57);
    }

    @Says(promise = 5, sentence = "Throws IllegalStateException if the text is not an office")
    static void loadOfNoOffice(Check check) {
        check.refusedLeaving("a text too long", Check.STATE, Offices::fullText, ChairStamps::load);
        for (String text : new String[] {"", "k", "Kc0450c1480t0t", "Kc0450x", "c0450"}) {
            Check.Make make = () -> {
                ChairStamps x = Offices.busy();
                Check.write(x, text);
                return x;
            };
            check.refusedLeaving("the text " + text, Check.STATE, make, ChairStamps::load);
        }
    }
}
