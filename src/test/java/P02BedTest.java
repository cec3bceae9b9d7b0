import java.util.List;
import java.util.function.Supplier;

/** Promise 2: bed. */
public final class P02BedTest {
    public static void main(String[] args) {
        Check.holds("place: the place of a new bed; size: its size; sedge: its sedge", P02BedTest::placeSizeSedge);
        Check.holds("Returns its number.", P02BedTest::itsNumber);
        Check.holds("Throws IndexOutOfBoundsException if place is not 0 to 30", P02BedTest::placeOutside);
        Check.holds("Throws IllegalArgumentException if size is not 1 to 9", P02BedTest::wrongSize);
        Check.holds("Throws IllegalArgumentException if .. sedge is not 0 to 100", P02BedTest::wrongSedge);
        Check.holds("Throws IllegalStateException if there are 8", P02BedTest::eightAtMost);
        Check.holds("If several exceptions apply, the one that is named first is thrown.", P02BedTest::whichComesFirst);
        Check.end();
    }

    private static void placeSizeSedge() {
        SedgeBarges x = new SedgeBarges();
        x.bed(0, 1, 0);
        x.bed(30, 9, 100);
        x.bed(7, 5, 33);
        Check.bedIs(x, 0, 0, 1, 3, 0, 12, 0, 0, 0, 0, 0);
        Check.bedIs(x, 1, 30, 9, 3, 100, 108, 108, 0, 0, 0, 0);
        Check.bedIs(x, 2, 7, 5, 3, 33, 60, 19, 0, 0, 0, 0);
        Check.countsAre(x, 0, 20, 100, 3, 180);
        x.pass(100);
        x.bed(1, 1, 1);
        Check.bedIs(x, 3, 1, 1, 3, 1, 12, 0, 0, 0, 0, 0);
    }

    private static void itsNumber() {
        SedgeBarges x = new SedgeBarges();
        int[] places = {30, 0, 15, 15, 2, 28, 1, 0};
        for (int bed = 0; bed < 8; bed++) {
            Check.same("bed() by its number", x.bed(places[bed], 1, 0), bed);
            Check.same("count(3)", x.count(3), bed + 1);
        }
        for (int bed = 0; bed < 8; bed++) {
            Check.bedIs(x, bed, places[bed]);
        }
    }

    private static void placeOutside() {
        for (Supplier<SedgeBarges> scene : Scenes.ALL) {
            for (int place : Scenes.wrongNumbers(31)) {
                Check.outside(scene, "bed(" + place + ", 1, 0)", x -> x.bed(place, 1, 0));
            }
        }
        Check.same("bed(0, 1, 0)", new SedgeBarges().bed(0, 1, 0), 0);
        Check.same("bed(30, 1, 0)", new SedgeBarges().bed(30, 1, 0), 0);
    }

    private static void wrongSize() {
        for (Supplier<SedgeBarges> scene : Scenes.ALL) {
            for (int size : Scenes.wrongNumbers(0, 10)) {
                Check.wrongArgument(scene, "bed(3, " + size + ", 0)", x -> x.bed(3, size, 0));
            }
        }
        Check.same("bed(3, 1, 0)", new SedgeBarges().bed(3, 1, 0), 0);
        Check.same("bed(3, 9, 0)", new SedgeBarges().bed(3, 9, 0), 0);
    }

    private static void wrongSedge() {
        for (Supplier<SedgeBarges> scene : Scenes.ALL) {
            for (int sedge : Scenes.wrongNumbers(101)) {
                Check.wrongArgument(scene, "bed(3, 1, " + sedge + ")", x -> x.bed(3, 1, sedge));
            }
        }
        Check.same("bed(3, 1, 0)", new SedgeBarges().bed(3, 1, 0), 0);
        Check.same("bed(3, 1, 100)", new SedgeBarges().bed(3, 1, 100), 0);
    }

    private static SedgeBarges beds(int number) {
        SedgeBarges x = new SedgeBarges();
        for (int bed = 0; bed < number; bed++) {
            x.bed(bed, 1, 0);
        }
        return x;
    }

    private static void eightAtMost() {
        Check.same("bed(0, 1, 0), the eighth", beds(7).bed(0, 1, 0), 7);
        Check.wrongState(() -> beds(8), "bed(0, 1, 0), the ninth", x -> x.bed(0, 1, 0));
        Check.wrongState(Scenes::full, "bed(30, 9, 100), the ninth", x -> x.bed(30, 9, 100));
    }

    private static void whichComesFirst() {
        for (Supplier<SedgeBarges> scene : List.<Supplier<SedgeBarges>>of(Scenes::busy, Scenes::full)) {
            Check.outside(scene, "bed(31, 0, 0)", x -> x.bed(31, 0, 0));
            Check.outside(scene, "bed(-1, 1, 101)", x -> x.bed(-1, 1, 101));
            Check.outside(scene, "bed(31, 10, -1)", x -> x.bed(31, 10, -1));
        }
        Check.outside(Scenes::full, "bed(31, 1, 0), the ninth", x -> x.bed(31, 1, 0));
        Check.wrongArgument(Scenes::full, "bed(0, 10, 0), the ninth", x -> x.bed(0, 10, 0));
        Check.wrongArgument(Scenes::full, "bed(0, 1, 101), the ninth", x -> x.bed(0, 1, 101));
    }
}
