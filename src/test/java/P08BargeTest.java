import java.util.function.Supplier;

/** Promise 8: barge. */
public final class P08BargeTest {
    public static void main(String[] args) {
        Check.holds("place: the place of a new barge", P08BargeTest::place);
        Check.holds("Returns its number.", P08BargeTest::itsNumber);
        Check.holds("Throws IndexOutOfBoundsException if place is not 0 to 30", P08BargeTest::placeOutside);
        Check.holds("Throws IllegalStateException if there are 3", P08BargeTest::threeAtMost);
        Check.holds("If several exceptions apply, the one that is named first is thrown.", P08BargeTest::whichComesFirst);
        Check.end();
    }

    private static void place() {
        SedgeBarges x = new SedgeBarges();
        x.barge(0);
        x.barge(30);
        x.barge(15);
        Check.bargeIs(x, 0, 0, -1, 0, 0, -1, 0);
        Check.bargeIs(x, 1, 30, -1, 0, 0, -1, 0);
        Check.bargeIs(x, 2, 15, -1, 0, 0, 1, 0);
        Check.countsAre(x, 0, 20, 100, 0, 0, 0, 0, 3, 0, 0, 0);
    }

    private static void itsNumber() {
        SedgeBarges x = new SedgeBarges();
        int[] places = {30, 0, 30};
        for (int barge = 0; barge < 3; barge++) {
            Check.same("barge() by its number", x.barge(places[barge]), barge);
            Check.same("count(7)", x.count(7), barge + 1);
        }
        for (int barge = 0; barge < 3; barge++) {
            Check.bargeIs(x, barge, places[barge]);
        }
    }

    private static void placeOutside() {
        for (Supplier<SedgeBarges> scene : Scenes.ALL) {
            for (int place : Scenes.wrongNumbers(31)) {
                Check.outside(scene, "barge(" + place + ")", x -> x.barge(place));
            }
        }
        Check.same("barge(0)", new SedgeBarges().barge(0), 0);
        Check.same("barge(30)", new SedgeBarges().barge(30), 0);
    }

    private static void threeAtMost() {
        Check.same("barge(30), the third", Scenes.busy().barge(30), 2);
        Check.wrongState(Scenes::full, "barge(0), the fourth", x -> x.barge(0));
        Check.wrongState(Scenes::full, "barge(30), the fourth", x -> x.barge(30));
    }

    private static void whichComesFirst() {
        for (int place : Scenes.wrongNumbers(31)) {
            Check.outside(Scenes::full, "barge(" + place + "), the fourth", x -> x.barge(place));
        }
    }
}
