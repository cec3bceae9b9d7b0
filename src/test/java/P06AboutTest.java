import java.util.function.Supplier;

/** Promise 6: about. */
public final class P06AboutTest {
    public static void main(String[] args) {
        Check.holds("what: 0 its place, 1 its size, 2 its age, .. 9 tied ones of reed", P06AboutTest::tellsEach);
        Check.holds("4 bundles that it gives, if it is cut now, 5 those of these that are sedge",
                P06AboutTest::whatItGives);
        Check.holds("Throws IndexOutOfBoundsException if there is no such bed", P06AboutTest::noSuchBed);
        Check.holds("Throws IndexOutOfBoundsException if .. what is not 0 to 9", P06AboutTest::noSuchFigure);
        Check.end();
    }

    private static SedgeBarges twoBeds() {
        SedgeBarges x = new SedgeBarges();
        x.bed(11, 9, 60);
        x.bed(25, 4, 77);
        x.cut(0);
        x.tie(0);
        // 64 of sedge and 44 of reed, of which 64 and 36 are tied.
        x.pass(100);
        x.cut(0);
        x.pass(99);
        x.cut(1);
        return x;
    }

    private static void tellsEach() {
        int[] first = {11, 9, 0, 60, 0, 0, 0, 0, 64, 36};
        int[] second = {25, 4, 0, 79, 0, 0, 56, 16, 0, 0};
        for (int what = 0; what < 10; what++) {
            int asked = what;
            Check.tells(P06AboutTest::twoBeds, "about(0, " + what + ")", first[what], x -> x.about(0, asked));
            Check.tells(P06AboutTest::twoBeds, "about(1, " + what + ")", second[what], x -> x.about(1, asked));
        }
        SedgeBarges x = twoBeds();
        x.pass(1);
        Check.bedIs(x, 0, 11, 9, 1, 60, 27, 16, 0, 0, 64, 36);
        Check.bedIs(x, 1, 25, 4, 1, 79, 12, 9, 50, 14, 0, 0);
    }

    private static void whatItGives() {
        SedgeBarges x = Scenes.full();
        for (int bed = 0; bed < 8; bed++) {
            int bundles = x.about(bed, 4);
            int ofSedge = x.about(bed, 5);
            int untiedSedge = x.about(bed, 6);
            int untiedReed = x.about(bed, 7);
            if (x.about(bed, 2) == 0) {
                Check.same("about(" + bed + ", 4) at the age of 0", bundles, 0);
                Check.same("about(" + bed + ", 5) at the age of 0", ofSedge, 0);
            } else {
                Check.same("cut(" + bed + ")", x.cut(bed), bundles);
                Check.same("about(" + bed + ", 6)", x.about(bed, 6), untiedSedge + ofSedge);
                Check.same("about(" + bed + ", 7)", x.about(bed, 7), untiedReed + bundles - ofSedge);
            }
        }
    }

    private static void noSuchBed() {
        for (Supplier<SedgeBarges> scene : Scenes.ALL) {
            for (int bed : Scenes.wrongNumbers(scene.get().count(3), 8)) {
                Check.outside(scene, "about(" + bed + ", 0)", x -> x.about(bed, 0));
                Check.outside(scene, "about(" + bed + ", 9)", x -> x.about(bed, 9));
                Check.outside(scene, "about(" + bed + ", 10)", x -> x.about(bed, 10));
            }
        }
        Check.same("about(7, 0) of 8 beds", Scenes.full().about(7, 0), 9);
    }

    private static void noSuchFigure() {
        for (int what : Scenes.wrongNumbers(10)) {
            Check.outside(Scenes::busy, "about(0, " + what + ")", x -> x.about(0, what));
            Check.outside(Scenes::full, "about(7, " + what + ")", x -> x.about(7, what));
        }
    }
}
