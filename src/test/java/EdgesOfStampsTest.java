/** Promises 19 to 22: test, sit, bound, set. */
public final class EdgesOfStampsTest {
    public static void main(String[] args) {
        Edges.run(EdgesOfStampsTest.class);
    }

    @Says(promise = 19, sentence = "Tests a chair.")
    static void aChairIsTested(Check check) {
        ChairStamps x = Offices.fullOfChairs();
        x.test(9);
        check.same("tests", x.about(3), 2);
        check.same("fees", x.about(6), 5 + 13);
        check.same("the stamp", x.chairOf(9, 6), 1);
        check.same("the other chair's stamp", x.chairOf(8, 6), 0);
    }

    @Says(promise = 19, sentence = "(One that is stamped already, and does not fail, is not stamped again.)")
    static void notStampedAgain(Check check) {
        ChairStamps x = Offices.withLegs(450, 450, 450, 450);
        for (int i = 1; i <= 20; i++) {
            check.same("the answer", x.test(0), 0);
            check.same("stamps given", x.about(4), 1);
            check.same("fees", x.about(6), 5 * i);
        }
        check.same("stamps void", x.about(5), 0);
        x.saw(0, 0, 1);
        x.test(0);
        check.same("stamped anew when the stamp was void", x.about(4), 2);
    }

    @Says(promise = 19, sentence = "Returns 0 if it does not fail, otherwise the reason.")
    static void reasonsOfTests(Check check) {
        check.same("none", Offices.withLegs(450, 450, 450, 446).test(0), 0);
        check.same("its wobble", Offices.withLegs(450, 450, 450, 445).test(0), 1);
        check.same("its lean", Offices.withLegs(450, 450, 437, 437).test(0), 2);
        check.same("too low", Offices.withLegs(400, 400, 400, 399).test(0), 3);
        check.same("too high", Offices.withLegs(501, 501, 501, 501).test(0), 4);
    }

    @Says(promise = 19, sentence = "Throws IndexOutOfBoundsException if there is no such chair")
    static void testNoChair(Check check) {
        check.range(Check.INDEX, Offices::busy, 0, 1, ChairStamps::test);
        check.range(Check.INDEX, Offices::fullOfChairs, 0, 9, ChairStamps::test);
        check.refusedLeaving("no chair at all", Check.INDEX, ChairStamps::new, x -> x.test(0));
    }

    @Says(promise = 20, sentence = "Somebody sits on a chair.")
    static void somebodySits(Check check) {
        ChairStamps x = Offices.fullOfChairs();
        x.sit(9, 60);
        check.same("its sitters", x.chairOf(9, 8), 1);
        check.same("all sitters", x.about(7), 2);
        check.same("its seat", x.chairOf(9, 4), 448);
        check.same("the other chair's sitters", x.chairOf(8, 8), 0);
        check.same("the other chair's seat", x.chairOf(8, 4), 448);
    }

    @Says(promise = 20, sentence = "weight: 1 to 200")
    static void weights(Check check) {
        ChairStamps x = Offices.withLegs(900, 900, 900, 900);
        x.set(1, 1);
        check.same("the least", x.sit(0, 1), 4);
        check.same("the most", x.sit(0, 200), 800);
    }

    @Says(promise = 20, sentence = "Returns how much its legs wear, together.")
    static void wearTogether(Check check) {
        check.same("nothing", Offices.withLegs(450, 450, 450, 450).sit(0, 59), 0);
        check.same("four legs", Offices.withLegs(450, 450, 450, 450).sit(0, 60), 4);
        check.same("three legs", Offices.withLegs(450, 450, 450, 449).sit(0, 60), 3);
        check.same("legs that can't wear all of it", Offices.withLegs(102, 101, 102, 103).sit(0, 200), 2 + 1 + 2 + 3);
        check.same("legs that can't wear", Offices.withLegs(100, 100, 100, 100).sit(0, 200), 0);
        ChairStamps idle = Offices.withLegs(101, 100, 100, 100);
        idle.level(0, 0, 50);
        check.same("only the idle leg could wear", idle.sit(0, 200), 0);
        ChairStamps x = Offices.withLegs(900, 900, 900, 900);
        x.set(1, 1);
        check.same("the most of all", x.sit(0, 200), 800);
    }

    @Says(promise = 20, sentence = "Throws IndexOutOfBoundsException if there is no such chair")
    static void sitOnNoChair(Check check) {
        check.range(Check.INDEX, Offices::busy, 0, 1, (x, c) -> x.sit(c, 100));
        check.range(Check.INDEX, Offices::fullOfChairs, 0, 9, (x, c) -> x.sit(c, 1));
        check.refusedLeaving("and the weight", Check.INDEX, Offices::busy, x -> x.sit(2, 0));
        check.refusedLeaving("and the weight", Check.INDEX, ChairStamps::new, x -> x.sit(0, 201));
    }

    @Says(promise = 20, sentence = "Throws IllegalArgumentException if weight is out of range")
    static void sitByNoWeight(Check check) {
        check.range(Check.ARGUMENT, Offices::busy, 1, 200, (x, weight) -> x.sit(1, weight));
    }

    @Says(promise = 21, sentence = "Changes a bound of a guild.")
    static void aBoundChanges(Check check) {
        for (int i = 0; i < 16; i++) {
            ChairStamps x = Offices.busy();
            x.bound(i / 4, i % 4, 100);
            for (int j = 0; j < 16; j++) {
                int first = new int[] {400, 500, 4, 12}[j % 4];
                check.same("the bound " + j, x.boundOf(j / 4, j % 4), j == i ? 100 : first);
            }
        }
    }

    @Says(promise = 21, sentence = "k: bound, 0 to 3")
    static void boundsOfAGuild(Check check) {
        check.range(Check.INDEX, Offices::busy, 0, 3, (x, k) -> x.bound(1, k, 100));
    }

    @Says(promise = 21, sentence = "v: the new value, in its range")
    static void newBounds(Check check) {
        int[] least = {100, 100, 0, 0};
        int[] most = {900, 900, 100, 200};
        for (int i = 0; i < 16; i++) {
            int k = i % 4;
            ChairStamps x = Offices.busy();
            for (int v : new int[] {least[k], least[k] + 1, most[k] - 1, most[k]}) {
                x.bound(i / 4, k, v);
                check.same("the bound", x.boundOf(i / 4, k), v);
            }
        }
    }

    /** Ten stamped chairs of guild 2, with seats of 450 to 459. */
    private static ChairStamps tenStamped() {
        ChairStamps x = new ChairStamps();
        for (int c = 0; c < 10; c++) {
            x.chair(2, 450 + c);
            x.test(c);
        }
        return x;
    }

    @Says(promise = 21, sentence = "Returns how many stamps become void by it.")
    static void stampsVoidByABound(Check check) {
        check.same("none", tenStamped().bound(2, 0, 450), 0);
        check.same("one, too low", tenStamped().bound(2, 0, 451), 1);
        check.same("one, too high", tenStamped().bound(2, 1, 458), 1);
        check.same("all but one", tenStamped().bound(2, 1, 450), 9);
        check.same("all", tenStamped().bound(2, 1, 449), 10);
        check.same("another guild's", tenStamped().bound(3, 1, 100), 0);
        ChairStamps x = tenStamped();
        x.bound(2, 1, 455);
        check.same("those that were void before are not counted", x.bound(2, 1, 449), 6);
        check.same("all together", x.about(5), 10);
        check.same("none is left", x.bound(2, 0, 900), 0);
        check.same("no stamp comes back", x.bound(2, 1, 900), 0);
    }

    @Says(promise = 21, sentence = "Throws IndexOutOfBoundsException if there is no such guild or bound")
    static void noSuchBound(Check check) {
        check.range(Check.INDEX, Offices::busy, 0, 3, (x, g) -> x.bound(g, 3, 100));
        check.range(Check.INDEX, ChairStamps::new, 0, 3, (x, k) -> x.bound(3, k, 100));
        check.refusedLeaving("guild and value", Check.INDEX, Offices::busy, x -> x.bound(4, 0, 99));
        check.refusedLeaving("bound and value", Check.INDEX, Offices::busy, x -> x.bound(0, 4, 901));
        check.refusedLeaving("bound and value", Check.INDEX, Offices::busy, x -> x.bound(0, -1, -1));
    }

    @Says(promise = 21, sentence = "Throws IllegalArgumentException if v is out of range")
    static void valuesBeyondBounds(Check check) {
        check.range(Check.ARGUMENT, Offices::busy, 100, 900, (x, v) -> x.bound(0, 0, v));
        check.range(Check.ARGUMENT, Offices::busy, 100, 900, (x, v) -> x.bound(0, 1, v));
        check.range(Check.ARGUMENT, Offices::busy, 0, 100, (x, v) -> x.bound(0, 2, v));
        check.range(Check.ARGUMENT, Offices::busy, 0, 200, (x, v) -> x.bound(0, 3, v));
    }

    @Says(promise = 22, sentence = "Changes a setting.")
    static void aSettingChanges(Check check) {
        ChairStamps x = Offices.busy();
        x.set(0, 50);
        check.same("the fee", x.setting(0), 50);
        check.same("the hardness stays", x.setting(1), 60);
        x.set(1, 200);
        check.same("the hardness", x.setting(1), 200);
        check.same("the fee stays", x.setting(0), 50);
        check.same("no stamp is void by it", x.chairOf(0, 6), 1);
    }

    @Says(promise = 22, sentence = "what: 0 or 1")
    static void whichSetting(Check check) {
        check.range(Check.ARGUMENT, Offices::busy, 0, 1, (x, what) -> x.set(what, 1));
    }

    @Says(promise = 22, sentence = "v: the new value, in its range")
    static void newSettings(Check check) {
        ChairStamps x = Offices.busy();
        for (int v : new int[] {0, 1, 49, 50}) {
            x.set(0, v);
            check.same("the fee", x.setting(0), v);
        }
        for (int v : new int[] {1, 2, 199, 200}) {
            x.set(1, v);
            check.same("the hardness", x.setting(1), v);
        }
    }

    @Says(promise = 22, sentence = "Returns the previous one.")
    static void settingsBefore(Check check) {
        ChairStamps x = new ChairStamps();
        check.same("the first fee", x.set(0, 50), 5);
        check.same("the greatest fee", x.set(0, 0), 50);
        check.same("the least fee", x.set(0, 0), 0);
        check.same("the first hardness", x.set(1, 1), 60);
        check.same("the least hardness", x.set(1, 200), 1);
        check.same("the greatest hardness", x.set(1, 200), 200);
    }

    @Says(promise = 22, sentence = "Throws IllegalArgumentException if what or v is out of range")
    static void settingsBeyond(Check check) {
        check.range(Check.ARGUMENT, Offices::busy, 0, 50, (x, v) -> x.set(0, v));
        check.range(Check.ARGUMENT, Offices::busy, 1, 200, (x, v) -> x.set(1, v));
        check.refusedLeaving("both", Check.ARGUMENT, Offices::busy, x -> x.set(2, -1));
        check.refusedLeaving("a hardness that would be a fee", Check.ARGUMENT, Offices::busy, x -> x.set(1, 0));
        check.refusedLeaving("a fee that would be a hardness", Check.ARGUMENT, Offices::busy, x -> x.set(0, 51));
    }
}
