import java.util.function.Supplier;

/** Promise 13: landing. */
public final class P13LandingTest {
    public static void main(String[] args) {
        Check.holds("what: 0 its place, 1 bundles in store", P13LandingTest::tellsEach);
        Check.holds("2 for how many coins a bundle of sedge is sold there now", P13LandingTest::ofSedge);
        Check.holds("3 one of reed", P13LandingTest::ofReed);
        Check.holds("Throws IndexOutOfBoundsException if landing is not 0 to 2", P13LandingTest::noSuchLanding);
        Check.holds("Throws IndexOutOfBoundsException if .. what is not 0 to 3", P13LandingTest::noSuchFigure);
        Check.end();
    }

    private static void tellsAll(Supplier<SedgeBarges> scene, int landing, int... due) {
        for (int what = 0; what < due.length; what++) {
            int asked = what;
            Check.tells(scene, "landing(" + landing + ", " + what + ")", due[what], x -> x.landing(landing, asked));
        }
    }

    private static void tellsEach() {
        tellsAll(Scenes::empty, 0, 2, 0, 12, 6);
        tellsAll(Scenes::empty, 1, 15, 0, 9, 4);
        tellsAll(Scenes::empty, 2, 28, 0, 14, 7);
        tellsAll(Scenes::busy, 0, 2, 68, 10, 5);
        tellsAll(Scenes::busy, 1, 15, 64, 7, 3);
        tellsAll(Scenes::busy, 2, 28, 20, 14, 7);
    }

    private static void prices(int what, int landing, int[] stores, int[] due) {
        for (int i = 0; i < stores.length; i++) {
            SedgeBarges x = Scenes.withStore(landing, stores[i]);
            Check.same("landing(" + landing + ", " + what + ") with " + stores[i], x.landing(landing, what), due[i]);
        }
    }

    private static void ofSedge() {
        prices(2, 0, new int[] {24, 25, 49, 50, 274, 275, 299, 300, 325, 640}, new int[] {12, 11, 11, 10, 2, 1, 1, 1, 1, 1});
        prices(2, 1, new int[] {24, 25, 49, 50, 199, 200, 224, 225, 250, 640}, new int[] {9, 8, 8, 7, 2, 1, 1, 1, 1, 1});
        prices(2, 2, new int[] {24, 25, 49, 50, 324, 325, 349, 350, 375, 640},
                new int[] {14, 13, 13, 12, 2, 1, 1, 1, 1, 1});
        SedgeBarges x = Scenes.withStore(1, 25);
        x.pass(1);
        Check.landingIs(x, 1, 15, 23, 9, 4);
    }

    private static void ofReed() {
        prices(3, 0, new int[] {24, 25, 49, 50, 224, 225, 274, 275, 300, 640}, new int[] {6, 5, 5, 5, 2, 1, 1, 1, 1, 1});
        prices(3, 1, new int[] {24, 25, 49, 50, 149, 150, 199, 200, 225, 640}, new int[] {4, 4, 4, 3, 2, 1, 1, 1, 1, 1});
        prices(3, 2, new int[] {24, 25, 49, 50, 274, 275, 324, 325, 350, 640}, new int[] {7, 6, 6, 6, 2, 1, 1, 1, 1, 1});
    }

    private static void noSuchLanding() {
        for (Supplier<SedgeBarges> scene : Scenes.ALL) {
            for (int landing : Scenes.wrongNumbers(3)) {
                Check.outside(scene, "landing(" + landing + ", 0)", x -> x.landing(landing, 0));
                Check.outside(scene, "landing(" + landing + ", 3)", x -> x.landing(landing, 3));
                Check.outside(scene, "landing(" + landing + ", 4)", x -> x.landing(landing, 4));
            }
        }
    }

    private static void noSuchFigure() {
        for (Supplier<SedgeBarges> scene : Scenes.ALL) {
            for (int what : Scenes.wrongNumbers(4)) {
                Check.outside(scene, "landing(0, " + what + ")", x -> x.landing(0, what));
                Check.outside(scene, "landing(2, " + what + ")", x -> x.landing(2, what));
            }
        }
    }
}
