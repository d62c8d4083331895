/** Promises 6 to 12: about, chairOf, wobble, legOf, spot, boundOf, setting. */
public final class ReadingTest {
    private static final Check CHECK = new Check();

    public static void main(String[] args) {
        about();
        chairOf();
        idleLegs();
        reasons();
        wobble();
        legOf();
        spot();
        boundOf();
        setting();
        CHECK.end();
    }

    private static void abouts(String when, ChairStamps x, int... due) {
        for (int i = 0; i < due.length; i++) {
            CHECK.same("promise 6: about(" + i + ") " + when, x.about(i), due[i]);
        }
    }

    private static void about() {
        ChairStamps x = new ChairStamps();
        abouts("at first", x, 0, 1, 0, 0, 0, 0, 0, 0, 0, 0, 0);
        x.chair(0, 450);
        x.chair(1, 399);
        x.floor(1, 1, 1, 1);
        x.test(0);
        x.test(1);
        abouts("after tests", x, 2, 2, 1, 2, 1, 0, 10, 0, 0, 0, 0);
        x.set(0, 50);
        x.test(0);
        abouts("after a dear test", x, 2, 2, 1, 3, 1, 0, 60, 0, 0, 0, 0);
        x.saw(0, 2, 7);
        x.saw(1, 2, 30);
        x.shim(0, 2, 5);
        x.shim(0, 2, 1);
        x.sit(0, 59);
        abouts("after work", x, 2, 2, 0, 3, 1, 1, 60, 1, 37, 6, 0);
        x.sit(1, 120);
        abouts("after a sitter", x, 2, 2, 0, 3, 1, 1, 60, 2, 37, 6, 6);
        CHECK.refused("promise 6: -1", Check.ARGUMENT, () -> x.about(-1));
        CHECK.refused("promise 6: 11", Check.ARGUMENT, () -> x.about(11));
        CHECK.refused("promise 6: least", Check.ARGUMENT, () -> x.about(Integer.MIN_VALUE));
        CHECK.refused("promise 6: most", Check.ARGUMENT, () -> x.about(Integer.MAX_VALUE));
    }

    private static void chair(String when, ChairStamps x, int c, int... due) {
        for (int i = 0; i < due.length; i++) {
            CHECK.same("promise 7: chairOf(" + c + ", " + i + ") " + when, x.chairOf(c, i), due[i]);
        }
    }

    private static void chairOf() {
        ChairStamps x = new ChairStamps();
        CHECK.refused("promise 7: no chair yet", Check.INDEX, () -> x.chairOf(0, 0));
        x.chair(0, 450);
        x.chair(3, 500);
        x.floor(10, 0, 0, 3);
        chair("at first", x, 1, 3, 0, 0, 0, 500, -1, 0, 0, 0);
        x.bring(1, 1, 3);
        // The leg 0 stands on the spot 3, the leg 1 on the spot 0: reaches 497, 490, 500, 500.
        chair("turned", x, 1, 3, 1, 3, 10, 500, 1, 0, 1, 0);
        x.sit(1, 180);
        // The legs 0, 2 and 3 wear by 3: reaches 494, 490, 497, 497.
        chair("worn", x, 1, 3, 1, 3, 7, 497, 1, 0, 0, 1);
        x.test(1);
        chair("stamped", x, 1, 3, 1, 3, 7, 497, 1, 1, 0, 1);
        chair("the other one", x, 0, 0, 0, 0, 0, 450, -1, 0, 0, 0);
        CHECK.refused("promise 7: chair -1", Check.INDEX, () -> x.chairOf(-1, 0));
        CHECK.refused("promise 7: chair 2", Check.INDEX, () -> x.chairOf(2, 0));
        CHECK.refused("promise 7: what -1", Check.ARGUMENT, () -> x.chairOf(0, -1));
        CHECK.refused("promise 7: what 9", Check.ARGUMENT, () -> x.chairOf(1, 9));
        CHECK.refused("promise 7: both", Check.INDEX, () -> x.chairOf(2, 9));
    }

    private static void idle(int due, int... lengths) {
        CHECK.same("promise 7: idle leg", Offices.withLegs(lengths).chairOf(0, 5), due);
    }

    private static void idleLegs() {
        idle(-1, 450, 450, 450, 450);
        idle(-1, 450, 440, 430, 440);
        idle(0, 449, 450, 450, 450);
        idle(1, 450, 449, 450, 450);
        idle(2, 450, 450, 449, 450);
        idle(3, 450, 450, 450, 449);
        idle(1, 451, 450, 450, 450);
        idle(0, 450, 451, 450, 450);
        idle(2, 455, 460, 444, 440);
        idle(3, 440, 455, 460, 444);
        idle(1, 480, 440, 440, 460);
    }

    private static void reason(int due, int... lengths) {
        CHECK.same("promise 7: reason", Offices.withLegs(lengths).chairOf(0, 7), due);
    }

    private static void reasons() {
        reason(0, 450, 450, 450, 446);
        reason(1, 450, 450, 450, 445);
        reason(0, 450, 450, 438, 438);
        reason(2, 450, 450, 437, 437);
        reason(1, 450, 450, 450, 430);
        reason(0, 400, 400, 400, 400);
        reason(3, 399, 400, 400, 400);
        reason(0, 500, 500, 500, 500);
        // 2003 / 4 is rounded down to 500.
        reason(0, 503, 500, 500, 500);
        reason(0, 501, 501, 501, 500);
        reason(4, 501, 501, 501, 501);
        reason(1, 399, 390, 399, 399);
        reason(2, 399, 399, 386, 386);
        reason(2, 520, 520, 507, 507);
        ChairStamps x = new ChairStamps();
        x.chair(2, 450);
        x.bound(2, 0, 460);
        x.bound(2, 1, 440);
        CHECK.same("promise 7: too low comes before too high", x.chairOf(0, 7), 3);
        x.bound(2, 0, 440);
        CHECK.same("promise 7: too high", x.chairOf(0, 7), 4);
    }

    private static void wobble() {
        ChairStamps x = new ChairStamps();
        CHECK.refused("promise 8: no chair yet", Check.INDEX, () -> x.wobble(0, 0));
        x.chair(0, 450);
        x.floor(10, 1, 2, 50);
        for (int way = 0; way < 2; way++) {
            CHECK.same("promise 8: none, way " + way, x.wobble(0, way), 0);
        }
        x.bring(0, 1, 0);
        CHECK.same("promise 8: odd spots higher", x.wobble(0, 0), 39);
        CHECK.same("promise 8: odd spots higher, by gaps", x.wobble(0, 1), 39);
        x.bring(0, 1, 1);
        CHECK.same("promise 8: even spots higher", x.wobble(0, 0), 39);
        CHECK.same("promise 8: even spots higher, by gaps", x.wobble(0, 1), 39);
        x.saw(0, 1, 20);
        CHECK.same("promise 8: sawn", x.wobble(0, 0), 19);
        CHECK.same("promise 8: sawn, by gaps", x.wobble(0, 1), 19);
        x.saw(0, 1, 300);
        CHECK.same("promise 8: far", x.wobble(0, 0), 281);
        CHECK.same("promise 8: far, by gaps", x.wobble(0, 1), 281);
        CHECK.refused("promise 8: chair 1", Check.INDEX, () -> x.wobble(1, 0));
        CHECK.refused("promise 8: chair -1", Check.INDEX, () -> x.wobble(-1, 2));
        CHECK.refused("promise 8: way -1", Check.ARGUMENT, () -> x.wobble(0, -1));
        CHECK.refused("promise 8: way 2", Check.ARGUMENT, () -> x.wobble(0, 2));
    }

    private static void legOf() {
        ChairStamps x = new ChairStamps();
        CHECK.refused("promise 9: no chair yet", Check.INDEX, () -> x.legOf(0, 0, 0));
        x.chair(0, 100);
        x.chair(0, 600);
        x.floor(10, 20, 30, 50);
        x.bring(0, 1, 2);
        x.shim(0, 3, 9);
        int[][] due = {{100, 70, 2}, {100, 50, 3}, {100, 90, 0}, {109, 89, 1}};
        for (int k = 0; k < 4; k++) {
            for (int i = 0; i < 3; i++) {
                CHECK.same("promise 9: leg " + k + " what " + i, x.legOf(0, k, i), due[k][i]);
            }
            CHECK.same("promise 9: the other chair", x.legOf(1, k, 0), 600);
            CHECK.same("promise 9: the other chair's spot", x.legOf(1, k, 2), k);
        }
        CHECK.refused("promise 9: chair 2", Check.INDEX, () -> x.legOf(2, 0, 0));
        CHECK.refused("promise 9: chair -1", Check.INDEX, () -> x.legOf(-1, 0, 0));
        CHECK.refused("promise 9: leg 4", Check.INDEX, () -> x.legOf(0, 4, 0));
        CHECK.refused("promise 9: leg -1", Check.INDEX, () -> x.legOf(1, -1, 0));
        CHECK.refused("promise 9: what 3", Check.ARGUMENT, () -> x.legOf(0, 0, 3));
        CHECK.refused("promise 9: what -1", Check.ARGUMENT, () -> x.legOf(0, 0, -1));
        CHECK.refused("promise 9: leg and what", Check.INDEX, () -> x.legOf(0, 4, 3));
    }

    private static void spot() {
        ChairStamps x = new ChairStamps();
        x.floor(10, 20, 30, 50);
        for (int k = 0; k < 4; k++) {
            CHECK.same("promise 10: floor 0", x.spot(0, k), 0);
            CHECK.same("promise 10: floor 1", x.spot(1, k), new int[] {10, 20, 30, 50}[k]);
        }
        CHECK.refused("promise 10: floor 2", Check.INDEX, () -> x.spot(2, 0));
        CHECK.refused("promise 10: floor -1", Check.INDEX, () -> x.spot(-1, 0));
        CHECK.refused("promise 10: spot 4", Check.INDEX, () -> x.spot(0, 4));
        CHECK.refused("promise 10: spot -1", Check.INDEX, () -> x.spot(1, -1));
    }

    private static void boundOf() {
        ChairStamps x = new ChairStamps();
        int[] first = {400, 500, 4, 12};
        for (int g = 0; g < 4; g++) {
            for (int k = 0; k < 4; k++) {
                CHECK.same("promise 11: at first", x.boundOf(g, k), first[k]);
            }
        }
        x.bound(3, 2, 77);
        CHECK.same("promise 11: changed", x.boundOf(3, 2), 77);
        CHECK.same("promise 11: not changed", x.boundOf(2, 2), 4);
        CHECK.refused("promise 11: guild 4", Check.INDEX, () -> x.boundOf(4, 0));
        CHECK.refused("promise 11: guild -1", Check.INDEX, () -> x.boundOf(-1, 0));
        CHECK.refused("promise 11: bound 4", Check.INDEX, () -> x.boundOf(0, 4));
        CHECK.refused("promise 11: bound -1", Check.INDEX, () -> x.boundOf(1, -1));
    }

    private static void setting() {
        ChairStamps x = new ChairStamps();
        CHECK.same("promise 12: fee", x.setting(0), 5);
        CHECK.same("promise 12: hardness", x.setting(1), 60);
        x.set(1, 200);
        CHECK.same("promise 12: fee still", x.setting(0), 5);
        CHECK.same("promise 12: hardness then", x.setting(1), 200);
        CHECK.refused("promise 12: -1", Check.ARGUMENT, () -> x.setting(-1));
        CHECK.refused("promise 12: 2", Check.ARGUMENT, () -> x.setting(2));
    }
}
