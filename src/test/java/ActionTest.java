/** Promises 13 to 23: the actions and undo. */
public final class ActionTest {
    private static final Check CHECK = new Check();

    public static void main(String[] args) {
        chair();
        floor();
        level();
        levelVoids();
        bring();
        saw();
        shim();
        test();
        sit();
        sitShort();
        sitSettings();
        bound();
        boundRanges();
        set();
        undo();
        undoLimit();
        refusedIsNoAction();
        undoAfterUndo();
        CHECK.end();
    }

    private static void chair() {
        ChairStamps x = new ChairStamps();
        for (int i = 0; i < 10; i++) {
            CHECK.same("promise 13: number", x.chair(i % 4, i == 0 ? 100 : 900), i);
            CHECK.same("promise 13: guild", x.chairOf(i, 0), i % 4);
        }
        CHECK.same("promise 13: legs", x.legOf(0, 3, 0), 100);
        CHECK.same("promise 13: legs", x.legOf(9, 0, 0), 900);
        CHECK.same("promise 13: chairs", x.about(0), 10);
        String before = Check.all(x);
        CHECK.refused("promise 13: the eleventh", Check.STATE, () -> x.chair(0, 450));
        CHECK.refused("promise 13: length before number", Check.ARGUMENT, () -> x.chair(0, 99));
        CHECK.refused("promise 13: guild before all", Check.INDEX, () -> x.chair(4, 99));
        CHECK.sameState("promise 13: nothing changes", x, before);
        ChairStamps y = new ChairStamps();
        CHECK.refused("promise 13: guild -1", Check.INDEX, () -> y.chair(-1, 450));
        CHECK.refused("promise 13: guild 4", Check.INDEX, () -> y.chair(4, 450));
        CHECK.refused("promise 13: length 99", Check.ARGUMENT, () -> y.chair(3, 99));
        CHECK.refused("promise 13: length 901", Check.ARGUMENT, () -> y.chair(3, 901));
        CHECK.same("promise 13: none came", y.about(0), 0);
    }

    /** A chair that comes after an undo has nothing of the one that went. */
    private static void chairAnew() {
        ChairStamps x = new ChairStamps();
        x.floor(1, 1, 1, 1);
        x.chair(0, 450);
        x.bring(0, 1, 3);
        x.sit(0, 1);
        x.test(0);
        for (int i = 0; i < 4; i++) {
            x.undo();
        }
        x.chair(1, 460);
        CHECK.sameState("promise 13: anew", x, " 1 2 0 0 0 0 0 0 0 0 0 / chair 1 0 0 0 460 -1 0 0 0 460 460 460 460"
            + " / floor 0 0 0 0 / floor 1 1 1 1 / bounds"
            + " 400 500 4 12 400 500 4 12 400 500 4 12 400 500 4 12 / settings 5 60");
    }

    private static void floor() {
        chairAnew();
        ChairStamps x = new ChairStamps();
        CHECK.same("promise 14: number", x.floor(0, 50, 1, 49), 1);
        CHECK.same("promise 14: number", x.floor(50, 0, 7, 0), 2);
        CHECK.refused("promise 14: a -1", Check.ARGUMENT, () -> x.floor(-1, 0, 0, 0));
        CHECK.refused("promise 14: b 51", Check.ARGUMENT, () -> x.floor(0, 51, 0, 0));
        CHECK.refused("promise 14: c -1", Check.ARGUMENT, () -> x.floor(0, 0, -1, 0));
        CHECK.refused("promise 14: d 51", Check.ARGUMENT, () -> x.floor(0, 0, 0, 51));
        CHECK.refused("promise 14: a 51", Check.ARGUMENT, () -> x.floor(51, 0, 0, 0));
        CHECK.refused("promise 14: b -1", Check.ARGUMENT, () -> x.floor(0, -1, 0, 0));
        CHECK.refused("promise 14: c 51", Check.ARGUMENT, () -> x.floor(0, 0, 51, 0));
        CHECK.refused("promise 14: d -1", Check.ARGUMENT, () -> x.floor(0, 0, 0, -1));
        CHECK.same("promise 14: number", x.floor(50, 50, 50, 50), 3);
        CHECK.refused("promise 14: the fifth", Check.STATE, () -> x.floor(0, 0, 0, 0));
        CHECK.refused("promise 14: argument first", Check.ARGUMENT, () -> x.floor(0, 0, 0, 51));
        CHECK.same("promise 14: floors", x.about(1), 4);
        int[][] due = {{0, 0, 0, 0}, {0, 50, 1, 49}, {50, 0, 7, 0}, {50, 50, 50, 50}};
        for (int i = 0; i < 16; i++) {
            CHECK.same("promise 14: spot", x.spot(i / 4, i % 4), due[i / 4][i % 4]);
        }
    }

    private static void level() {
        ChairStamps x = new ChairStamps();
        x.floor(1, 2, 3, 4);
        CHECK.same("promise 15: previous", x.level(1, 2, 50), 3);
        CHECK.same("promise 15: previous then", x.level(1, 2, 0), 50);
        CHECK.same("promise 15: the floor 0 too", x.level(0, 3, 9), 0);
        CHECK.same("promise 15: spot", x.spot(0, 3), 9);
        CHECK.same("promise 15: other spot", x.spot(1, 3), 4);
        CHECK.same("promise 15: changed spot", x.spot(1, 2), 0);
        CHECK.refused("promise 15: floor 2", Check.INDEX, () -> x.level(2, 0, 0));
        CHECK.refused("promise 15: floor -1", Check.INDEX, () -> x.level(-1, 0, 51));
        CHECK.refused("promise 15: spot 4", Check.INDEX, () -> x.level(0, 4, 0));
        CHECK.refused("promise 15: spot -1", Check.INDEX, () -> x.level(1, -1, 0));
        CHECK.refused("promise 15: height 51", Check.ARGUMENT, () -> x.level(0, 0, 51));
        CHECK.refused("promise 15: height -1", Check.ARGUMENT, () -> x.level(0, 0, -1));
    }

    private static void levelVoids() {
        ChairStamps x = new ChairStamps();
        x.floor(0, 0, 0, 0);
        for (int c = 0; c < 4; c++) {
            x.chair(c, 450);
            x.bring(c, c % 2, c);
        }
        for (int c = 0; c < 3; c++) {
            x.test(c);
        }
        x.level(1, 0, 0);
        CHECK.same("promise 15: the same height voids nothing", x.about(2), 3);
        x.level(1, 0, 1);
        CHECK.same("promise 15: the stamp there is void", x.chairOf(1, 6), 0);
        CHECK.same("promise 15: the others are not", x.about(2), 2);
        CHECK.same("promise 15: one is counted", x.about(5), 1);
        x.level(0, 3, 2);
        CHECK.same("promise 15: both there are void", x.about(2), 0);
        CHECK.same("promise 15: three are counted", x.about(5), 3);
        CHECK.same("promise 15: none fails", x.sound(), 15);
    }

    private static void bring() {
        ChairStamps x = new ChairStamps();
        x.chair(0, 450);
        x.floor(10, 1, 2, 50);
        CHECK.same("promise 16: wobble", x.bring(0, 1, 1), 39);
        CHECK.same("promise 16: floor", x.chairOf(0, 1), 1);
        CHECK.same("promise 16: quarters", x.chairOf(0, 2), 1);
        CHECK.same("promise 16: wobble on the floor 0", x.bring(0, 0, 3), 0);
        x.test(0);
        x.bring(0, 0, 3);
        CHECK.same("promise 16: the same place keeps the stamp", x.chairOf(0, 6), 1);
        x.bring(0, 0, 2);
        CHECK.same("promise 16: other quarters void it", x.chairOf(0, 6), 0);
        x.test(0);
        x.floor(0, 0, 0, 0);
        CHECK.same("promise 16: a new floor voids nothing", x.chairOf(0, 6), 1);
        x.bring(0, 2, 2);
        CHECK.same("promise 16: another floor voids it", x.chairOf(0, 6), 0);
        CHECK.same("promise 16: void stamps", x.about(5), 2);
        x.bring(0, 1, 2);
        CHECK.same("promise 16: without a stamp none is void", x.about(5), 2);
        CHECK.refused("promise 16: chair 1", Check.INDEX, () -> x.bring(1, 0, 0));
        CHECK.refused("promise 16: chair -1", Check.INDEX, () -> x.bring(-1, 0, 0));
        CHECK.refused("promise 16: floor 3", Check.INDEX, () -> x.bring(0, 3, 0));
        CHECK.refused("promise 16: floor -1", Check.INDEX, () -> x.bring(0, -1, 4));
        CHECK.refused("promise 16: quarters 4", Check.ARGUMENT, () -> x.bring(0, 0, 4));
        CHECK.refused("promise 16: quarters -1", Check.ARGUMENT, () -> x.bring(0, 0, -1));
        CHECK.same("promise 16: it stays", x.chairOf(0, 1), 1);
    }

    private static void saw() {
        ChairStamps x = new ChairStamps();
        x.chair(0, 450);
        x.chair(0, 900);
        x.test(0);
        CHECK.same("promise 17: length", x.saw(0, 2, 1), 449);
        CHECK.same("promise 17: the stamp is void", x.chairOf(0, 6), 0);
        CHECK.same("promise 17: the leg", x.legOf(0, 2, 0), 449);
        CHECK.same("promise 17: another leg", x.legOf(0, 1, 0), 450);
        CHECK.same("promise 17: the most", x.saw(1, 0, 800), 100);
        CHECK.same("promise 17: sawn", x.about(8), 801);
        CHECK.same("promise 17: not shimmed, not worn", x.about(9) + x.about(10), 0);
        String before = Check.all(x);
        CHECK.refused("promise 17: too short", Check.STATE, () -> x.saw(1, 0, 1));
        CHECK.refused("promise 17: too short", Check.STATE, () -> x.saw(0, 2, 350));
        CHECK.refused("promise 17: 0", Check.ARGUMENT, () -> x.saw(0, 0, 0));
        CHECK.refused("promise 17: -1", Check.ARGUMENT, () -> x.saw(0, 0, -1));
        CHECK.refused("promise 17: 801", Check.ARGUMENT, () -> x.saw(0, 0, 801));
        CHECK.refused("promise 17: most", Check.ARGUMENT, () -> x.saw(1, 0, Integer.MAX_VALUE));
        CHECK.refused("promise 17: least", Check.ARGUMENT, () -> x.saw(1, 0, Integer.MIN_VALUE));
        CHECK.refused("promise 17: chair 2", Check.INDEX, () -> x.saw(2, 0, 0));
        CHECK.refused("promise 17: chair -1", Check.INDEX, () -> x.saw(-1, 0, 1));
        CHECK.refused("promise 17: leg 4", Check.INDEX, () -> x.saw(0, 4, 801));
        CHECK.refused("promise 17: leg -1", Check.INDEX, () -> x.saw(1, -1, 1));
        CHECK.sameState("promise 17: nothing changes", x, before);
        CHECK.same("promise 17: down to 100", x.saw(0, 2, 349), 100);
    }

    private static void shim() {
        ChairStamps x = new ChairStamps();
        x.chair(0, 450);
        x.chair(0, 801);
        x.test(0);
        CHECK.same("promise 18: length", x.shim(0, 3, 1), 451);
        CHECK.same("promise 18: the stamp is void", x.chairOf(0, 6), 0);
        CHECK.same("promise 18: the leg", x.legOf(0, 3, 0), 451);
        CHECK.same("promise 18: another leg", x.legOf(0, 0, 0), 450);
        CHECK.same("promise 18: the most", x.shim(1, 0, 99), 900);
        CHECK.same("promise 18: shimmed", x.about(9), 100);
        CHECK.same("promise 18: not sawn, not worn", x.about(8) + x.about(10), 0);
        String before = Check.all(x);
        CHECK.refused("promise 18: too long", Check.STATE, () -> x.shim(1, 0, 1));
        CHECK.refused("promise 18: 0", Check.ARGUMENT, () -> x.shim(1, 0, 0));
        CHECK.refused("promise 18: 100", Check.ARGUMENT, () -> x.shim(1, 0, 100));
        CHECK.refused("promise 18: least", Check.ARGUMENT, () -> x.shim(0, 0, Integer.MIN_VALUE));
        CHECK.refused("promise 18: most", Check.ARGUMENT, () -> x.shim(0, 0, Integer.MAX_VALUE));
        CHECK.refused("promise 18: chair 2", Check.INDEX, () -> x.shim(2, 0, 100));
        CHECK.refused("promise 18: chair -1", Check.INDEX, () -> x.shim(-1, 0, 1));
        CHECK.refused("promise 18: leg 4", Check.INDEX, () -> x.shim(0, 4, 0));
        CHECK.refused("promise 18: leg -1", Check.INDEX, () -> x.shim(1, -1, 1));
        CHECK.sameState("promise 18: nothing changes", x, before);
    }

    private static void test() {
        ChairStamps x = new ChairStamps();
        x.chair(0, 450);
        x.chair(1, 399);
        x.chair(2, 501);
        x.chair(3, 450);
        CHECK.same("promise 19: sound", x.test(0), 0);
        CHECK.same("promise 19: stamped", x.chairOf(0, 6), 1);
        CHECK.same("promise 19: sound again", x.test(0), 0);
        CHECK.same("promise 19: not stamped again", x.about(4), 1);
        CHECK.same("promise 19: tested twice", x.about(3), 2);
        CHECK.same("promise 19: paid twice", x.about(6), 10);
        CHECK.same("promise 19: too low", x.test(1), 3);
        CHECK.same("promise 19: too high", x.test(2), 4);
        x.saw(3, 0, 5);
        CHECK.same("promise 19: wobbles", x.test(3), 1);
        x.saw(3, 1, 13);
        x.bound(3, 2, 100);
        CHECK.same("promise 19: leans", x.test(3), 2);
        CHECK.same("promise 19: no stamps", x.about(2), 1);
        CHECK.same("promise 19: all are paid", x.about(6), 30);
        CHECK.same("promise 19: all are counted", x.about(3), 6);
        x.set(0, 0);
        x.test(1);
        CHECK.same("promise 19: without a fee", x.about(6), 30);
        x.saw(0, 0, 1);
        CHECK.same("promise 19: stamped anew", x.test(0), 0);
        CHECK.same("promise 19: stamps given", x.about(4), 2);
        CHECK.refused("promise 19: chair 4", Check.INDEX, () -> x.test(4));
        CHECK.refused("promise 19: chair -1", Check.INDEX, () -> x.test(-1));
        CHECK.same("promise 19: a refused one is not counted", x.about(3), 8);
    }

    private static void sit() {
        ChairStamps x = new ChairStamps();
        x.chair(0, 450);
        x.chair(1, 450);
        x.test(0);
        CHECK.same("promise 20: too light", x.sit(0, 59), 0);
        CHECK.same("promise 20: nothing wears, the stamp stays", x.chairOf(0, 6), 1);
        CHECK.same("promise 20: all four wear", x.sit(0, 60), 4);
        CHECK.same("promise 20: the stamp is void", x.chairOf(0, 6), 0);
        CHECK.same("promise 20: one stamp is void", x.about(5), 1);
        x.saw(0, 3, 2);
        CHECK.same("promise 20: three wear", x.sit(0, 200), 9);
        int[] due = {446, 446, 446, 447};
        for (int k = 0; k < 4; k++) {
            CHECK.same("promise 20: leg", x.legOf(0, k, 0), due[k]);
            CHECK.same("promise 20: another chair's", x.legOf(1, k, 0), 450);
        }
        CHECK.same("promise 20: sitters of the chair", x.chairOf(0, 8), 3);
        CHECK.same("promise 20: sitters of another", x.chairOf(1, 8), 0);
        x.sit(1, 1);
        CHECK.same("promise 20: sitters", x.about(7), 4);
        CHECK.same("promise 20: worn", x.about(10), 13);
        String before = Check.all(x);
        CHECK.refused("promise 20: 0", Check.ARGUMENT, () -> x.sit(0, 0));
        CHECK.refused("promise 20: 201", Check.ARGUMENT, () -> x.sit(0, 201));
        CHECK.refused("promise 20: -1", Check.ARGUMENT, () -> x.sit(1, -1));
        CHECK.refused("promise 20: chair 2", Check.INDEX, () -> x.sit(2, 0));
        CHECK.refused("promise 20: chair -1", Check.INDEX, () -> x.sit(-1, 1));
        CHECK.sameState("promise 20: nothing changes", x, before);
    }

    /** No leg becomes shorter than 100. */
    private static void sitShort() {
        ChairStamps x = new ChairStamps();
        x.chair(0, 102);
        x.bound(0, 0, 100);
        x.set(1, 10);
        x.saw(0, 0, 1);
        x.saw(0, 2, 2);
        x.test(0);
        // The leg 2 is idle; 0 wears by 1, 1 and 3 by 2, though the weight asks for 20.
        CHECK.same("promise 20: down to 100", x.sit(0, 200), 5);
        for (int k = 0; k < 4; k++) {
            CHECK.same("promise 20: the least length", x.legOf(0, k, 0), 100);
        }
        CHECK.same("promise 20: worn as far as it went", x.about(10), 5);
        CHECK.same("promise 20: void", x.about(5), 1);
        x.test(0);
        CHECK.same("promise 20: no leg becomes shorter", x.sit(0, 200), 0);
        CHECK.same("promise 20: the stamp stays", x.chairOf(0, 6), 1);
        CHECK.same("promise 20: both are counted", x.chairOf(0, 8), 2);
        x.shim(0, 1, 3);
        x.test(0);
        // The odd legs reach farther, so of 0 and 2 the leg 0 is idle.
        CHECK.same("promise 20: only one can wear", x.sit(0, 20), 2);
        CHECK.same("promise 20: its length", x.legOf(0, 1, 0), 101);
        CHECK.same("promise 20: void by it", x.chairOf(0, 6), 0);
    }

    private static void sitSettings() {
        ChairStamps x = new ChairStamps();
        x.chair(0, 900);
        x.set(1, 1);
        CHECK.same("promise 20: the softest wood", x.sit(0, 200), 800);
        x.set(1, 200);
        CHECK.same("promise 20: the hardest wood", x.sit(0, 199), 0);
        CHECK.same("promise 20: the hardest wood", x.sit(0, 200), 4);
        x.set(1, 7);
        CHECK.same("promise 20: rounded down", x.sit(0, 20), 8);
    }

    private static void bound() {
        ChairStamps x = new ChairStamps();
        x.chair(1, 450);
        x.chair(1, 460);
        x.chair(2, 450);
        x.chair(1, 470);
        for (int c = 0; c < 4; c++) {
            x.test(c);
        }
        CHECK.same("promise 21: none fails", x.bound(1, 0, 450), 0);
        CHECK.same("promise 21: none is void", x.about(2), 4);
        CHECK.same("promise 21: one is too low", x.bound(1, 0, 451), 1);
        CHECK.same("promise 21: it is void", x.chairOf(0, 6), 0);
        CHECK.same("promise 21: that of another guild is not", x.chairOf(2, 6), 1);
        CHECK.same("promise 21: void ones are not void again", x.bound(1, 0, 461), 1);
        CHECK.same("promise 21: it does not come back", x.bound(1, 0, 100), 0);
        CHECK.same("promise 21: two stamps are there", x.about(2), 2);
        x.test(0);
        x.test(1);
        CHECK.same("promise 21: all of the guild", x.bound(1, 1, 400), 3);
        CHECK.same("promise 21: void so far", x.about(5), 5);
        CHECK.same("promise 21: the bound", x.boundOf(1, 1), 400);
        ChairStamps y = new ChairStamps();
        y.chair(0, 450);
        y.saw(0, 0, 2);
        y.test(0);
        CHECK.same("promise 21: wobbles as much as it may", y.bound(0, 2, 2), 0);
        CHECK.same("promise 21: leans as much as it may", y.bound(0, 3, 2), 0);
        CHECK.same("promise 21: leans too much", y.bound(0, 3, 1), 1);
        y.bound(0, 3, 12);
        y.test(0);
        CHECK.same("promise 21: wobbles too much", y.bound(0, 2, 0), 1);
    }

    private static void boundRanges() {
        ChairStamps x = new ChairStamps();
        int[] least = {100, 100, 0, 0};
        int[] most = {900, 900, 100, 200};
        for (int i = 0; i < 16; i++) {
            int g = i / 4;
            int k = i % 4;
            CHECK.same("promise 21: the least", x.bound(g, k, least[k]), 0);
            CHECK.same("promise 21: the least", x.boundOf(g, k), least[k]);
            CHECK.same("promise 21: the most", x.bound(g, k, most[k]), 0);
            CHECK.refused("promise 21: below", Check.ARGUMENT, () -> x.bound(g, k, least[k] - 1));
            CHECK.refused("promise 21: above", Check.ARGUMENT, () -> x.bound(g, k, most[k] + 1));
            CHECK.same("promise 21: the most", x.boundOf(g, k), most[k]);
        }
        CHECK.refused("promise 21: guild 4", Check.INDEX, () -> x.bound(4, 0, 99));
        CHECK.refused("promise 21: guild -1", Check.INDEX, () -> x.bound(-1, 0, 450));
        CHECK.refused("promise 21: bound 4", Check.INDEX, () -> x.bound(0, 4, 150));
        CHECK.refused("promise 21: bound -1", Check.INDEX, () -> x.bound(1, -1, 1000));
    }

    private static void set() {
        ChairStamps x = new ChairStamps();
        CHECK.same("promise 22: fee", x.set(0, 50), 5);
        CHECK.same("promise 22: fee", x.set(0, 0), 50);
        CHECK.same("promise 22: hardness", x.set(1, 1), 60);
        CHECK.same("promise 22: hardness", x.set(1, 200), 1);
        CHECK.refused("promise 22: fee -1", Check.ARGUMENT, () -> x.set(0, -1));
        CHECK.refused("promise 22: fee 51", Check.ARGUMENT, () -> x.set(0, 51));
        CHECK.refused("promise 22: hardness 0", Check.ARGUMENT, () -> x.set(1, 0));
        CHECK.refused("promise 22: hardness 201", Check.ARGUMENT, () -> x.set(1, 201));
        CHECK.refused("promise 22: setting 2", Check.ARGUMENT, () -> x.set(2, 1));
        CHECK.refused("promise 22: setting -1", Check.ARGUMENT, () -> x.set(-1, 1));
        CHECK.same("promise 22: fee then", x.setting(0), 0);
        CHECK.same("promise 22: hardness then", x.setting(1), 200);
    }

    /** Each kind of action is taken back, to the state before it. */
    private static void undo() {
        ChairStamps x = new ChairStamps();
        CHECK.refused("promise 23: nothing to undo", Check.STATE, x::undo);
        String[] before = new String[11];
        before[0] = Check.all(x);
        x.chair(0, 450);
        before[1] = Check.all(x);
        x.floor(1, 0, 0, 1);
        before[2] = Check.all(x);
        x.test(0);
        before[3] = Check.all(x);
        x.level(0, 0, 3);
        before[4] = Check.all(x);
        x.bring(0, 1, 2);
        before[5] = Check.all(x);
        x.saw(0, 1, 4);
        before[6] = Check.all(x);
        x.shim(0, 2, 4);
        before[7] = Check.all(x);
        x.sit(0, 200);
        before[8] = Check.all(x);
        x.bound(0, 2, 77);
        before[9] = Check.all(x);
        x.set(1, 3);
        before[10] = Check.all(x);
        x.set(1, 3);
        for (int i = 10; i >= 0; i--) {
            CHECK.same("promise 23: still remembered", x.undo(), i);
            CHECK.sameState("promise 23: state " + i, x, before[i]);
        }
        CHECK.refused("promise 23: nothing is left", Check.STATE, x::undo);
    }

    private static void undoLimit() {
        for (int actions = 13; actions <= 40; actions++) {
            ChairStamps x = new ChairStamps();
            for (int i = 0; i < actions; i++) {
                x.set(0, i);
            }
            int most = Math.min(actions, 14);
            for (int i = 1; i <= most; i++) {
                CHECK.same("promise 23: of at most 14", x.undo(), most - i);
                CHECK.same("promise 23: the fee then", x.setting(0), actions == i ? 5 : actions - i - 1);
            }
            CHECK.refused("promise 23: the oldest are forgotten", Check.STATE, x::undo);
        }
    }

    /** Neither a call that throws nor one that is no action is remembered or makes forget. */
    private static void refusedIsNoAction() {
        ChairStamps x = new ChairStamps();
        x.chair(0, 100);
        for (int i = 1; i < 14; i++) {
            x.set(0, i);
        }
        CHECK.refused("promise 23: saw", Check.STATE, () -> x.saw(0, 0, 1));
        CHECK.refused("promise 23: chair", Check.INDEX, () -> x.chair(4, 450));
        CHECK.refused("promise 23: floor", Check.ARGUMENT, () -> x.floor(51, 0, 0, 0));
        CHECK.refused("promise 23: level", Check.INDEX, () -> x.level(1, 0, 0));
        CHECK.refused("promise 23: bring", Check.ARGUMENT, () -> x.bring(0, 0, 4));
        CHECK.refused("promise 23: shim", Check.ARGUMENT, () -> x.shim(0, 0, 0));
        CHECK.refused("promise 23: test", Check.INDEX, () -> x.test(1));
        CHECK.refused("promise 23: sit", Check.ARGUMENT, () -> x.sit(0, 0));
        CHECK.refused("promise 23: bound", Check.INDEX, () -> x.bound(0, 4, 0));
        CHECK.refused("promise 23: set", Check.ARGUMENT, () -> x.set(2, 0));
        x.bestTurn(0, 0, 0);
        x.bestSaw(0);
        x.failsIn(0, 9);
        x.bestFloor(0);
        x.sound();
        x.runScript(1, 500060);
        x.simulate(1, 60);
        x.save(0);
        x.append('K');
        x.errorPosition();
        x.clearText();
        for (int i = 13; i >= 0; i--) {
            CHECK.same("promise 23: all 14 are remembered", x.undo(), i);
        }
        CHECK.same("promise 23: the first state", x.about(0), 0);
    }

    private static void undoAfterUndo() {
        ChairStamps x = new ChairStamps();
        for (int i = 1; i <= 20; i++) {
            x.set(0, i);
        }
        for (int i = 0; i < 5; i++) {
            x.undo();
        }
        CHECK.same("promise 23: back by 5", x.setting(0), 15);
        for (int i = 31; i <= 37; i++) {
            x.set(0, i);
        }
        int[] due = {36, 35, 34, 33, 32, 31, 15, 14, 13, 12, 11, 10, 9, 8};
        for (int i = 0; i < 14; i++) {
            CHECK.same("promise 23: still", x.undo(), 13 - i);
            CHECK.same("promise 23: back", x.setting(0), due[i]);
        }
        CHECK.refused("promise 23: no more", Check.STATE, x::undo);
    }
}
