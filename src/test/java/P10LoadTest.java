import java.util.function.Supplier;

/** Promise 10: load. */
public final class P10LoadTest {
    public static void main(String[] args) {
        Check.holds("Loads tied bundles of a bed", P10LoadTest::tiedOnes);
        Check.holds("those of sedge first", P10LoadTest::sedgeFirst);
        Check.holds("as many as there is room for", P10LoadTest::room);
        Check.holds("Returns how many are loaded.", P10LoadTest::howMany);
        Check.holds("Throws IndexOutOfBoundsException if there is no such barge or bed", P10LoadTest::noSuchOne);
        Check.holds("Throws IllegalStateException if the barge is not at the place of the bed",
                P10LoadTest::atAnotherPlace);
        Check.holds("If several exceptions apply, the one that is named first is thrown.", P10LoadTest::whichComesFirst);
        Check.end();
    }

    private static void tiedOnes() {
        SedgeBarges x = new SedgeBarges();
        x.bed(7, 2, 50);
        x.bed(7, 1, 50);
        x.barge(3);
        x.barge(7);
        Check.same("load(1, 0) of nothing", x.load(1, 0), 0);
        x.cut(0);
        x.cut(1);
        Check.same("load(1, 0) of what is untied", x.load(1, 0), 0);
        x.tie(0);
        x.tie(1);
        Check.same("load(1, 0)", x.load(1, 0), 24);
        Check.bargeIs(x, 1, 7, -1, 12, 12, -1, 0);
        Check.bargeIs(x, 0, 3, -1, 0, 0, -1, 0);
        Check.bedIs(x, 0, 7, 2, 0, 50, 0, 0, 0, 0, 0, 0);
        Check.bedIs(x, 1, 7, 1, 0, 50, 0, 0, 0, 0, 6, 6);
        Check.countsAre(x, 0, 20, 64, 2, 0, 0, 12, 2, 24, 0, 0);
        Check.same("load(1, 0) again", x.load(1, 0), 0);
    }

    /** A barge with 108 bundles of reed aboard; on the bank of the bed 2 are tied ones, some of sedge. */
    private static SedgeBarges withRoomFor42(int sedge) {
        SedgeBarges x = Scenes.withTies(4, 0, 192);
        x.bed(4, 7, sedge);
        x.barge(4);
        x.tie(1);
        x.load(0, 1);
        x.cut(2);
        x.tie(2);
        return x;
    }

    private static void sedgeFirst() {
        // Of 84 bundles as many are of sedge.
        int[] sedge = {0, 1, 41, 42, 43, 84};
        int[] hundredths = {0, 2, 49, 50, 52, 100};
        for (int i = 0; i < sedge.length; i++) {
            SedgeBarges x = withRoomFor42(hundredths[i]);
            Check.same("about(2, 8)", x.about(2, 8), sedge[i]);
            Check.same("load(0, 2)", x.load(0, 2), 42);
            int ofSedge = Math.min(42, sedge[i]);
            Check.bargeIs(x, 0, 4, -1, ofSedge, 108 + 42 - ofSedge);
            Check.same("about(2, 8)", x.about(2, 8), sedge[i] - ofSedge);
            Check.same("about(2, 9)", x.about(2, 9), 84 - sedge[i] - (42 - ofSedge));
        }
    }

    /** Two beds with so many tied bundles together, 109 to 192, and a barge there. */
    private static SedgeBarges tied(int number) {
        SedgeBarges x = Scenes.withTies(4, 100, number);
        x.bed(4, 9, 50);
        x.barge(4);
        x.barge(4);
        x.cut(2);
        x.tie(1);
        x.tie(2);
        return x;
    }

    private static void room() {
        int[] numbers = {149, 150, 151, 192};
        for (int number : numbers) {
            SedgeBarges x = tied(number);
            Check.same("count(6)", x.count(6), 108 + number);
            int loaded = x.load(0, 1) + x.load(0, 2);
            Check.same("aboard of " + number, loaded, Math.min(150, number));
            Check.same("count(8)", x.count(8), Math.min(150, number));
            Check.same("left of " + number, x.about(1, 8) + x.about(2, 8) + x.about(2, 9), number - loaded);
            Check.same("load(0, 2) again", x.load(0, 2), 0);
            Check.same("load(1, 2) of what is left", x.load(1, 2), number - loaded);
        }
        SedgeBarges x = tied(192);
        x.load(0, 1);
        x.load(0, 2);
        Check.bargeIs(x, 0, 4, -1, 150, 0, -1, 0);
        x.sail(0, 2);
        x.pass(1);
        x.sell(0);
        x.sail(0, 4);
        x.pass(1);
        Check.same("load(0, 2) when there is room again", x.load(0, 2), 42);
    }

    private static void howMany() {
        SedgeBarges x = tied(150);
        Check.same("load(0, 1)", x.load(0, 1), 108);
        Check.same("load(0, 1) of what was loaded", x.load(0, 1), 0);
        Check.same("load(0, 2)", x.load(0, 2), 42);
        SedgeBarges y = tied(151);
        y.load(0, 1);
        Check.same("load(0, 2), one more than there is room for", y.load(0, 2), 42);
        Check.same("load(0, 2), full", y.load(0, 2), 0);
        Check.same("about(2, 8)", y.about(2, 8), 1);
    }

    private static void noSuchOne() {
        for (Supplier<SedgeBarges> scene : Scenes.ALL) {
            for (int barge : Scenes.wrongNumbers(scene.get().count(7), 3)) {
                Check.outside(scene, "load(" + barge + ", 0)", x -> x.load(barge, 0));
            }
            for (int bed : Scenes.wrongNumbers(scene.get().count(3), 8)) {
                Check.outside(scene, "load(0, " + bed + ")", x -> x.load(0, bed));
            }
        }
        Check.outside(() -> new SedgeBarges(), "load(0, 0) with nothing", x -> x.load(0, 0));
        Check.outside(Scenes::busy, "load(2, 5) with 2 and 5", x -> x.load(2, 5));
        SedgeBarges x = Scenes.full();
        x.cut(7);
        x.tie(7);
        Check.same("load(2, 7) of 3 and 8", x.load(2, 7), 48);
    }

    private static SedgeBarges tiedAt5(int bargePlace) {
        SedgeBarges x = Scenes.withTies(5, 50, 50);
        x.tie(1);
        x.barge(bargePlace);
        x.barge(5);
        return x;
    }

    private static void atAnotherPlace() {
        Check.wrongState(() -> tiedAt5(4), "load(0, 1) from a place before it", x -> x.load(0, 1));
        Check.wrongState(() -> tiedAt5(6), "load(0, 1) from a place behind it", x -> x.load(0, 1));
        Check.wrongState(() -> tiedAt5(0), "load(0, 1) from 0", x -> x.load(0, 1));
        Check.same("load(1, 1) by the barge that is there", tiedAt5(4).load(1, 1), 50);
        SedgeBarges onItsWay = tiedAt5(0);
        onItsWay.sail(0, 9);
        onItsWay.pass(1);
        Check.same("load(0, 1) on its way", onItsWay.load(0, 1), 50);
        Check.bargeIs(onItsWay, 0, 5, 9, 50, 0);
        Check.wrongState(Scenes::full, "load(0, 7) of nothing", x -> x.load(0, 7));
        Supplier<SedgeBarges> laden = () -> {
            SedgeBarges x = tied(151);
            x.load(0, 1);
            x.load(0, 2);
            x.sail(0, 5);
            x.pass(1);
            return x;
        };
        Check.wrongState(laden, "load(0, 2), full", x -> x.load(0, 2));
    }

    private static void whichComesFirst() {
        // The places of what there is are no help to what there is not.
        Check.outside(() -> tiedAt5(4), "load(2, 1)", x -> x.load(2, 1));
        Check.outside(() -> tiedAt5(4), "load(0, 2)", x -> x.load(0, 2));
        Check.outside(() -> tiedAt5(4), "load(MAX, MIN)", x -> x.load(Integer.MAX_VALUE, Integer.MIN_VALUE));
        Supplier<SedgeBarges> atPlaceNone = () -> {
            SedgeBarges x = new SedgeBarges();
            x.barge(0);
            return x;
        };
        Check.outside(atPlaceNone, "load(0, 0) without beds, at the place 0", x -> x.load(0, 0));
    }
}
