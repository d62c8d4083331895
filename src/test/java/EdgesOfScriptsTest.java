/** Promise 29: runScript. */
public final class EdgesOfScriptsTest {
    private static final int NONE = ChairStamps.NONE;

    public static void main(String[] args) {
        Edges.run(EdgesOfScriptsTest.class);
    }

    /** One command on a full office: the chair 0 is stamped on the floor 0, 1 leans by 3 on the floor 1. */
    private static void succeed(Check check, int... groups) {
        for (int group : groups) {
            check.same("the command " + group, Offices.full().runScript(1, group), NONE);
        }
    }

    private static void fail(Check check, int... groups) {
        for (int group : groups) {
            check.same("the command " + group, Offices.full().runScript(1, group), 0);
        }
    }

    private static void script(Check check, ChairStamps x, int n, long script, int due) {
        check.same("the script " + script, x.runScript(n, script), due);
    }

    @Says(promise = 29, sentence = "Runs a script on a copy of the state.")
    static void onACopy(Check check) {
        check.changesNothing("saw, shim, bring", Offices::full, x -> x.runScript(3, 100005200005303300L));
        check.changesNothing("test, sit, bound", Offices::full, x -> x.runScript(3, 410000510200600900L));
        check.changesNothing("a script that fails", Offices::full, x -> x.runScript(3, 100005200005999999L));
        ChairStamps x = Offices.full();
        for (int i = 0; i < 3; i++) {
            script(check, x, 2, 100300700300L, NONE);
        }
        script(check, x, 2, 410000810001L, NONE);
        script(check, x, 1, 810001, 0);
    }

    @Says(promise = 29, sentence = "A script has 1 to 3 commands")
    static void oneToThree(Check check) {
        ChairStamps x = Offices.full();
        script(check, x, 1, 400000L, NONE);
        script(check, x, 2, 400000400000L, NONE);
        script(check, x, 3, 400000400000400000L, NONE);
        check.range(Check.ARGUMENT, Offices::full, 1, 3, (y, n) -> y.runScript(n, 400000L));
    }

    @Says(promise = 29, sentence = "each is a group of six decimal digits d1 to d6, and the first command is the highest group"
        + " of the number (with zeros before it, if it has fewer digits).")
    static void highestGroupFirst(Check check) {
        ChairStamps x = Offices.full();
        // The chair 0 can be sawn by 350, and not by 1 more behind it.
        script(check, x, 2, 100350100001L, 1);
        script(check, x, 2, 100001100350L, 1);
        script(check, x, 2, 100001100349L, NONE);
        script(check, x, 3, 100005700005700004L, 2);
        script(check, x, 3, 700004100005700005L, NONE);
        script(check, x, 2, 400000L, 0);
        script(check, x, 3, 400000L, 0);
        script(check, x, 3, 400000400000L, 0);
        script(check, x, 1, 99999L, 0);
        script(check, x, 1, 1L, 0);
        script(check, x, 1, 0L, 0);
    }

    @Says(promise = 29, sentence = "1 c k n n n: saw(c, k, nnn).")
    static void commandSaw(Check check) {
        succeed(check, 100001, 103350, 190001, 193349, 113379);
        fail(check, 100000, 103351, 193350, 113380, 104001, 109001, 100801, 100999);
        ChairStamps x = Offices.withLegs(900, 900, 900, 900);
        script(check, x, 1, 103800, NONE);
        script(check, x, 1, 103801, 0);
        script(check, x, 1, 110001, 0);
        script(check, x, 2, 103005700005L, NONE);
        script(check, x, 2, 103005700004L, 1);
    }

    @Says(promise = 29, sentence = "2 c k 0 n n: shim(c, k, nn).")
    static void commandShim(Check check) {
        succeed(check, 200001, 203099, 290001, 293099);
        fail(check, 200000, 204001, 209001, 200100, 200101, 200999);
        ChairStamps x = Offices.withLegs(802, 802, 802, 802);
        script(check, x, 1, 203098, NONE);
        script(check, x, 1, 203099, 0);
        script(check, x, 1, 210001, 0);
        script(check, x, 2, 203005700005L, NONE);
        script(check, x, 2, 203005700004L, 1);
    }

    @Says(promise = 29, sentence = "3 c f q 0 0: bring(c, f, q).")
    static void commandBring(Check check) {
        succeed(check, 300000, 300300, 303000, 393300);
        fail(check, 304000, 309000, 300400, 300900, 300001, 300010, 300011, 300099);
        ChairStamps x = Offices.busy();
        script(check, x, 1, 301300, NONE);
        script(check, x, 1, 302000, 0);
        script(check, x, 1, 320000, 0);
        ChairStamps y = Offices.withLegs(460, 450, 450, 450);
        y.floor(0, 0, 0, 10);
        script(check, y, 2, 301300700000L, NONE);
        script(check, y, 2, 301200700019L, 1);
        script(check, y, 2, 301200700020L, NONE);
    }

    @Says(promise = 29, sentence = "4 c 0 0 0 r: test(c); succeeds if it returns r.")
    static void commandTest(Check check) {
        int[][] legs = {{450, 450, 450, 450}, {450, 450, 450, 445}, {450, 450, 437, 437}, {399, 399, 399, 399},
            {501, 501, 501, 501}};
        for (int reason = 0; reason <= 4; reason++) {
            for (int r = 0; r <= 9; r++) {
                script(check, Offices.withLegs(legs[reason]), 1, 400000 + r, r == reason ? NONE : 0);
            }
        }
        succeed(check, 490000);
        fail(check, 490001, 401000, 400100, 400010, 401110);
        script(check, Offices.busy(), 1, 420000, 0);
        script(check, Offices.busy(), 3, 810000410000810001L, NONE);
    }

    @Says(promise = 29, sentence = "5 c 0 w w w: sit(c, www).")
    static void commandSit(Check check) {
        succeed(check, 500001, 500200, 590001, 590200);
        fail(check, 500000, 500201, 500999, 501001, 509200);
        script(check, Offices.busy(), 1, 520001, 0);
        script(check, Offices.busy(), 2, 500059800001L, NONE);
        script(check, Offices.busy(), 2, 500060800000L, NONE);
    }

    @Says(promise = 29, sentence = "6 g k v v v: bound(g, k, vvv).")
    static void commandBound(Check check) {
        succeed(check, 600100, 600900, 631100, 631900, 602000, 632100, 603000, 633200);
        fail(check, 600099, 600901, 631099, 631901, 602101, 633201, 604100, 609000, 640450, 690450);
        script(check, Offices.busy(), 2, 600450800001L, NONE);
        script(check, Offices.busy(), 2, 600451800000L, NONE);
    }

    @Says(promise = 29, sentence = "7 c 0 n n n: succeeds if the wobble of the chair c is at most nnn.")
    static void commandWobble(Check check) {
        succeed(check, 700000, 700999, 710000, 710999, 790000);
        ChairStamps x = Offices.withLegs(900, 100, 900, 100);
        script(check, x, 1, 700999, 0);
        x.saw(0, 0, 601);
        script(check, x, 1, 700999, NONE);
        script(check, x, 1, 700998, 0);
        fail(check, 701000, 709999);
        script(check, Offices.busy(), 1, 720999, 0);
    }

    @Says(promise = 29, sentence = "8 c 0 0 0 s: succeeds if chairOf(c, 6) is s.")
    static void commandStamp(Check check) {
        succeed(check, 800001, 810000, 890000);
        fail(check, 800000, 810001, 890001, 800002, 800009, 800011, 800101, 801001, 810010, 810100, 811000);
        script(check, Offices.busy(), 1, 820000, 0);
    }

    @Says(promise = 29, sentence = "9 c 0 n n n: succeeds if the lean of the chair c is at most nnn.")
    static void commandLean(Check check) {
        succeed(check, 900000, 900999, 910003, 990000);
        fail(check, 910002, 910000, 901000, 909999);
        ChairStamps x = Offices.withLegs(900, 900, 900, 100);
        script(check, x, 1, 900800, NONE);
        script(check, x, 1, 900799, 0);
        script(check, Offices.busy(), 1, 920999, 0);
    }

    @Says(promise = 29, sentence = "The commands 1 to 6 fail if the method would throw an exception")
    static void commandsThatThrow(Check check) {
        ChairStamps x = Offices.full();
        long[] thrown = {100351, 100801, 100000, 200000, 300400, 500000, 500201, 600099, 602101};
        for (long group : thrown) {
            script(check, x, 1, group, 0);
            script(check, x, 2, 400000000000L + group, 1);
            script(check, x, 3, 400000400000000000L + group, 2);
        }
    }

    @Says(promise = 29, sentence = "commands with chairs, legs, floors or guilds that do not exist fail")
    static void commandsOnNothing(Check check) {
        ChairStamps empty = new ChairStamps();
        long[] commands = {100001, 200001, 300000, 400000, 500001, 700999, 800000, 900999};
        for (long group : commands) {
            script(check, empty, 1, group, 0);
            script(check, Offices.withLegs(450, 450, 450, 450), 1, group, NONE);
            script(check, Offices.withLegs(450, 450, 450, 450), 1, group + 10000, 0);
            script(check, Offices.full(), 1, group + 90000, NONE);
        }
        ChairStamps x = Offices.busy();
        script(check, x, 1, 103001, NONE);
        script(check, x, 1, 104001, 0);
        script(check, x, 1, 203001, NONE);
        script(check, x, 1, 204001, 0);
        script(check, x, 1, 301000, NONE);
        script(check, x, 1, 302000, 0);
        script(check, x, 1, 633100, NONE);
        script(check, x, 1, 643100, 0);
        script(check, x, 1, 634100, 0);
    }

    @Says(promise = 29, sentence = "and so does any other group (also one with another digit where a 0 is written).")
    static void otherGroups(Check check) {
        fail(check, 0, 1, 450, 99999, 90000);
        long[] commands = {200001, 300000, 300000, 400000, 400000, 400000, 500001, 700000, 800001, 800001, 800001, 900000};
        long[] zeros = {100, 10, 1, 1000, 100, 10, 1000, 1000, 1000, 100, 10, 1000};
        for (int i = 0; i < commands.length; i++) {
            script(check, Offices.full(), 1, commands[i], NONE);
            for (int digit = 1; digit <= 9; digit++) {
                script(check, Offices.full(), 1, commands[i] + digit * zeros[i], 0);
            }
        }
    }

    @Says(promise = 29, sentence = "All are decimal numbers.")
    static void decimal(Check check) {
        ChairStamps x = Offices.full();
        script(check, x, 2, 100010700010L, NONE);
        script(check, x, 2, 100010700009L, 1);
        script(check, x, 2, 100100700099L, 1);
        script(check, x, 2, 100100700100L, NONE);
        script(check, x, 2, 200088700088L, NONE);
        script(check, x, 2, 200088700087L, 1);
    }

    @Says(promise = 29, sentence = "n: number of commands, 1 to 3")
    static void numbersOfCommands(Check check) {
        check.range(Check.ARGUMENT, Offices::busy, 1, 3, (x, n) -> x.runScript(n, 0));
    }

    @Says(promise = 29, sentence = "script: the commands, a number of at most 6 * n digits (0 or more)")
    static void digitsOfScripts(Check check) {
        ChairStamps x = Offices.full();
        long[] limits = {1000000L, 1000000000000L, 1000000000000000000L};
        for (int n = 1; n <= 3; n++) {
            int commands = n;
            long limit = limits[n - 1];
            script(check, x, n, 0, 0);
            script(check, x, n, limit - 1, 0);
            check.refusedLeaving("a digit more", Check.ARGUMENT, Offices::full, y -> y.runScript(commands, limit));
            check.refusedLeaving("a digit more", Check.ARGUMENT, Offices::full, y -> y.runScript(commands, limit + 400000));
        }
        script(check, x, 3, 999999999999999999L, 0);
    }

    @Says(promise = 29, sentence = "Returns the index, from 0, of the first command that fails; NONE if all succeed.")
    static void firstThatFails(Check check) {
        ChairStamps x = Offices.full();
        script(check, x, 3, 400001400001400001L, 0);
        script(check, x, 3, 400000400001400001L, 1);
        script(check, x, 3, 400000400000400001L, 2);
        script(check, x, 3, 400000400000400000L, NONE);
        script(check, x, 3, 400000400001400000L, 1);
        script(check, x, 2, 400001400000L, 0);
        script(check, x, 1, 400001L, 0);
    }

    @Says(promise = 29, sentence = "Throws IllegalArgumentException if n is out of range,"
        + " or if script is negative or has more than 6 * n digits")
    static void scriptsOutOfRange(Check check) {
        for (long script : new long[] {-1, -400000, Long.MIN_VALUE, 1000000000000000000L, Long.MAX_VALUE}) {
            for (int n = 0; n <= 4; n++) {
                int commands = n;
                check.refusedLeaving(n + " of " + script, Check.ARGUMENT, Offices::busy, x -> x.runScript(commands, script));
            }
        }
        check.refusedLeaving("no command", Check.ARGUMENT, Offices::busy, x -> x.runScript(0, 0));
        check.refusedLeaving("four commands", Check.ARGUMENT, Offices::busy, x -> x.runScript(4, 400000400000400000L));
    }
}
