import java.util.function.Supplier;

/** Promise 9: sail. */
public final class P09SailTest {
    public static void main(String[] args) {
        Check.holds("Sends a barge to a place, which is its goal then", P09SailTest::goal);
        Check.holds("(none, if it is there)", P09SailTest::noGoal);
        Check.holds("Returns how many days it takes.", P09SailTest::days);
        Check.holds("Throws IndexOutOfBoundsException if there is no such barge", P09SailTest::noSuchBarge);
        Check.holds("Throws IndexOutOfBoundsException if .. place is not 0 to 30", P09SailTest::placeOutside);
        Check.end();
    }

    private static SedgeBarges at(int place) {
        SedgeBarges x = new SedgeBarges();
        x.barge(place);
        return x;
    }

    private static void goal() {
        for (int place = 0; place <= 30; place++) {
            SedgeBarges x = at(7);
            x.barge(9);
            x.sail(0, place);
            Check.bargeIs(x, 0, 7, place == 7 ? -1 : place);
            Check.bargeIs(x, 1, 9, -1);
        }
        SedgeBarges x = at(10);
        x.sail(0, 30);
        x.pass(1);
        Check.same("sail(0, 0) on its way", x.sail(0, 0), 3);
        Check.bargeIs(x, 0, 15, 0);
        x.pass(1);
        Check.bargeIs(x, 0, 10, 0);
    }

    private static void noGoal() {
        for (int place = 0; place <= 30; place++) {
            SedgeBarges x = at(place);
            Check.same("sail(0, " + place + ") where it is", x.sail(0, place), 0);
            Check.bargeIs(x, 0, place, -1);
        }
        SedgeBarges x = at(10);
        x.sail(0, 30);
        x.pass(1);
        Check.bargeIs(x, 0, 15, 30);
        Check.same("sail(0, 15) where it is on its way", x.sail(0, 15), 0);
        Check.bargeIs(x, 0, 15, -1);
        x.pass(2);
        Check.bargeIs(x, 0, 15, -1);
    }

    /** It is at its goal behind just as many days, and was not a day before. */
    private static void days() {
        int[] dayOfWay = {0, 1, 1, 1, 1, 1, 2, 2, 2, 2, 2, 3, 3, 3, 3, 3,
            4, 4, 4, 4, 4, 5, 5, 5, 5, 5, 6, 6, 6, 6, 6};
        for (int from = 0; from <= 30; from++) {
            for (int to = 0; to <= 30; to++) {
                SedgeBarges x = at(from);
                int due = dayOfWay[Math.abs(to - from)];
                Check.same("sail from " + from + " to " + to, x.sail(0, to), due);
                if (due > 0) {
                    Check.same("told(0, 1)", x.told(0, 1), to);
                    x.pass(due);
                }
                Check.bargeIs(x, 0, to, -1);
            }
        }
    }

    private static void noSuchBarge() {
        for (Supplier<SedgeBarges> scene : Scenes.ALL) {
            for (int barge : Scenes.wrongNumbers(scene.get().count(7), 3)) {
                Check.outside(scene, "sail(" + barge + ", 0)", x -> x.sail(barge, 0));
                Check.outside(scene, "sail(" + barge + ", 30)", x -> x.sail(barge, 30));
                Check.outside(scene, "sail(" + barge + ", 31)", x -> x.sail(barge, 31));
            }
        }
        Check.same("sail(2, 30) of 3 barges", Scenes.full().sail(2, 30), 5);
    }

    private static void placeOutside() {
        for (int place : Scenes.wrongNumbers(31)) {
            Check.outside(Scenes::busy, "sail(0, " + place + ")", x -> x.sail(0, place));
            Check.outside(Scenes::full, "sail(2, " + place + ")", x -> x.sail(2, place));
        }
        Check.same("sail(0, 0) from 30", at(30).sail(0, 0), 6);
        Check.same("sail(0, 30) from 0", at(0).sail(0, 30), 6);
    }
}
