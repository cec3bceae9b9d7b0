import java.util.function.Supplier;

/** Promise 4: tie. */
public final class P04TieTest {
    public static void main(String[] args) {
        Check.holds("Ties the untied bundles of a bed", P04TieTest::ofABed);
        Check.holds("those of sedge first", P04TieTest::sedgeFirst);
        Check.holds("as far as there are ties", P04TieTest::asFarAsThereAreTies);
        Check.holds("Returns how many are tied by this.", P04TieTest::howMany);
        Check.holds("Throws IndexOutOfBoundsException if there is no such bed", P04TieTest::noSuchBed);
        Check.end();
    }

    private static void ofABed() {
        SedgeBarges x = new SedgeBarges();
        x.bed(2, 2, 50);
        x.bed(2, 3, 25);
        x.cut(0);
        x.cut(1);
        x.tie(1);
        Check.bedIs(x, 1, 2, 3, 0, 25, 0, 0, 0, 0, 9, 27);
        Check.bedIs(x, 0, 2, 2, 0, 50, 0, 0, 12, 12, 0, 0);
        Check.countsAre(x, 0, 20, 64, 2, 0, 24, 36);
        x.tie(0);
        Check.bedIs(x, 0, 2, 2, 0, 50, 0, 0, 0, 0, 12, 12);
        Check.countsAre(x, 0, 20, 40, 2, 0, 0, 60);
    }

    /** 54 bundles of each lie there. */
    private static void sedgeFirst() {
        int[] ties = {1, 53, 54, 55, 107};
        for (int number : ties) {
            SedgeBarges x = Scenes.withTies(5, 50, number);
            x.tie(1);
            int sedge = Math.min(54, number);
            int reed = number - sedge;
            Check.bedIs(x, 1, 5, 9, 0, 50, 0, 0, 54 - sedge, 54 - reed, sedge, reed);
        }
    }

    private static void asFarAsThereAreTies() {
        int[] ties = {0, 1, 107, 108, 109, 192};
        for (int number : ties) {
            SedgeBarges x = Scenes.withTies(5, 50, number);
            int due = Math.min(108, number);
            Check.same("tie(1) with " + number, x.tie(1), due);
            Check.same("count(2)", x.count(2), number - due);
            Check.same("count(5)", x.count(5), 108 - due);
            Check.same("tie(1) again", x.tie(1), 0);
            Check.same("count(2)", x.count(2), number - due);
        }
        SedgeBarges x = Scenes.withTies(5, 50, 100);
        x.tie(1);
        x.buy(5);
        Check.same("tie(1) with 5 more", x.tie(1), 5);
        Check.bedIs(x, 1, 5, 9, 0, 50, 0, 0, 0, 3, 54, 51);
    }

    private static void howMany() {
        SedgeBarges x = new SedgeBarges();
        x.bed(2, 2, 50);
        Check.same("tie(0) of nothing", x.tie(0), 0);
        Check.same("count(2)", x.count(2), 100);
        x.cut(0);
        Check.same("tie(0)", x.tie(0), 24);
        Check.same("tie(0) of what is tied", x.tie(0), 0);
        x.pass(100);
        x.cut(0);
        Check.same("tie(0) of 6 beside 24 tied", x.tie(0), 6);
        Check.same("count(2)", x.count(2), 70);
        SedgeBarges ofSedge = Scenes.withTies(5, 100, 192);
        Check.same("tie(1) of sedge alone", ofSedge.tie(1), 108);
        SedgeBarges ofReed = Scenes.withTies(5, 0, 192);
        Check.same("tie(1) of reed alone", ofReed.tie(1), 108);
    }

    private static void noSuchBed() {
        for (Supplier<SedgeBarges> scene : Scenes.ALL) {
            for (int bed : Scenes.wrongNumbers(scene.get().count(3), 8)) {
                Check.outside(scene, "tie(" + bed + ")", x -> x.tie(bed));
            }
        }
        SedgeBarges x = Scenes.full();
        x.cut(7);
        Check.same("tie(7) of 8 beds", x.tie(7), 48);
    }
}
