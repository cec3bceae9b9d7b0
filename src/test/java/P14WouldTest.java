import java.util.function.Supplier;

/** Promise 14: would. */
public final class P14WouldTest {
    public static void main(String[] args) {
        Check.holds("how many coins all that is aboard would bring there", P14WouldTest::allAboard);
        Check.holds("if the barge sailed there now", P14WouldTest::sailedNow);
        Check.holds("and sold on the day on which it comes", P14WouldTest::priceOnTheDayOfComing);
        Check.holds("barge: a barge", P14WouldTest::eachByItsOwnWay);
        Check.holds("(as sail, pass and sell have it)", P14WouldTest::asItComesTrue);
        Check.holds("(nothing is changed)", P14WouldTest::nothingIsChanged);
        Check.holds("Throws IndexOutOfBoundsException if there is no such barge", P14WouldTest::noSuchBarge);
        Check.holds("Throws IndexOutOfBoundsException if .. landing is not 0 to 2", P14WouldTest::noSuchLanding);
        Check.end();
    }

    /** Of two barges at the place the first has 97 bundles of sedge and 3 of reed aboard. */
    private static SedgeBarges loaded(int place) {
        SedgeBarges x = new SedgeBarges();
        x.bed(place, 9, 90);
        x.barge(place);
        x.barge(place);
        x.cut(0);
        x.tie(0);
        x.load(0, 0);
        return x;
    }

    private static void allAboard() {
        int[] due = {97 * 12 + 3 * 6, 97 * 9 + 3 * 4, 97 * 14 + 3 * 7};
        int[] places = {0, 2, 15, 20, 28, 30};
        for (int place : places) {
            for (int landing = 0; landing < 3; landing++) {
                int asked = landing;
                Check.tells(() -> loaded(place), "would(0, " + landing + ")", due[landing], x -> x.would(0, asked));
                Check.tells(() -> loaded(place), "would(1, " + landing + ") of nothing", 0, x -> x.would(1, asked));
            }
        }
    }

    private static void sailedNow() {
        Supplier<SedgeBarges> otherGoal = () -> {
            SedgeBarges x = loaded(2);
            x.sail(0, 30);
            return x;
        };
        Check.tells(otherGoal, "would(0, 0) where it is", 97 * 12 + 3 * 6, x -> x.would(0, 0));
        Check.tells(otherGoal, "would(0, 1) with another goal", 97 * 9 + 3 * 4, x -> x.would(0, 1));
        Check.same("told(0, 1)", otherGoal.get().told(0, 1), 30);
    }

    /** A barge with 12 bundles of sedge has gone away from the landing 1, where there was so much in store. */
    private static SedgeBarges gone(int store, int place, int days) {
        SedgeBarges x = Scenes.withStore(1, store, 100);
        x.sail(0, place);
        x.pass(days);
        return x;
    }

    private static void priceOnTheDayOfComing() {
        Check.tells(() -> Scenes.withStore(1, 25, 100), "would(0, 1) with 25, where it is", 12 * 8, x -> x.would(0, 1));
        Check.tells(() -> Scenes.withStore(1, 24, 100), "would(0, 1) with 24, where it is", 12 * 9, x -> x.would(0, 1));
        for (int place : new int[] {10, 14, 16, 20}) {
            Check.same("landing(1, 1)", gone(28, place, 1).landing(1, 1), 26);
            // A day away, when it has come down from 26 to 24, or from 27 to 25.
            Check.tells(() -> gone(28, place, 1), "would(0, 1) from " + place, 12 * 9, x -> x.would(0, 1));
            Check.tells(() -> gone(29, place, 1), "would(0, 1) from " + place, 12 * 8, x -> x.would(0, 1));
        }
        for (int place : new int[] {5, 9, 21, 25}) {
            Check.same("landing(1, 1)", gone(32, place, 2).landing(1, 1), 28);
            // Two days away, when it has come down from 28 to 26 and 24, or from 29 to 27 and 25.
            Check.tells(() -> gone(32, place, 2), "would(0, 1) from " + place, 12 * 9, x -> x.would(0, 1));
            Check.tells(() -> gone(33, place, 2), "would(0, 1) from " + place, 12 * 8, x -> x.would(0, 1));
        }
        // Three days away: from 36 to 34, 32 and 30 on its way there, and to 28, 26 and 24 on its way back.
        Check.tells(() -> gone(36, 4, 3), "would(0, 1) from 4", 12 * 9, x -> x.would(0, 1));
        Check.tells(() -> gone(37, 4, 3), "would(0, 1) from 4", 12 * 8, x -> x.would(0, 1));
        // What is in store at others doesn't matter.
        Check.tells(() -> gone(640, 4, 3), "would(0, 0) from 4", 12 * 12, x -> x.would(0, 0));
    }

    /** Where the barge 0 lies at the landing 1, the barge 1 lies a day away with 12 bundles of sedge. */
    private static SedgeBarges withSecond(int store) {
        SedgeBarges x = Scenes.withStore(1, store, 100);
        int bed = x.bed(10, 1, 100);
        x.barge(10);
        x.buy(12);
        x.cut(bed);
        x.tie(bed);
        x.load(1, bed);
        return x;
    }

    private static void eachByItsOwnWay() {
        Check.tells(() -> withSecond(26), "would(0, 1) with 26, where it is", 12 * 8, x -> x.would(0, 1));
        Check.tells(() -> withSecond(26), "would(1, 1) with 26, a day away", 12 * 9, x -> x.would(1, 1));
        Check.tells(() -> withSecond(27), "would(1, 1) with 27, a day away", 12 * 8, x -> x.would(1, 1));
    }

    private static void asItComesTrue() {
        int[] begin = {1, 2, 95, 96, 100};
        for (int days : begin) {
            for (int barge = 0; barge < 3; barge++) {
                for (int landing = 0; landing < 3; landing++) {
                    SedgeBarges x = Scenes.full();
                    x.pass(days);
                    int coins = x.would(barge, landing);
                    int way = x.sail(barge, Scenes.LANDING_PLACES[landing]);
                    if (way > 0) {
                        x.pass(way);
                    }
                    Check.same("sell(" + barge + ") at " + landing + ", as would() had it", x.sell(barge), coins);
                }
            }
        }
    }

    private static void nothingIsChanged() {
        for (int barge = 0; barge < 3; barge++) {
            for (int landing = 0; landing < 3; landing++) {
                int askedBarge = barge;
                int askedLanding = landing;
                int due = Scenes.full().would(barge, landing);
                Check.tells(Scenes::full, "would(" + barge + ", " + landing + ") behind others", due, x -> {
                    x.would(0, 2);
                    x.would(1, 0);
                    return x.would(askedBarge, askedLanding);
                });
            }
        }
    }

    private static void noSuchBarge() {
        for (Supplier<SedgeBarges> scene : Scenes.ALL) {
            for (int barge : Scenes.wrongNumbers(scene.get().count(7), 3)) {
                Check.outside(scene, "would(" + barge + ", 0)", x -> x.would(barge, 0));
                Check.outside(scene, "would(" + barge + ", 2)", x -> x.would(barge, 2));
                Check.outside(scene, "would(" + barge + ", 3)", x -> x.would(barge, 3));
            }
        }
    }

    private static void noSuchLanding() {
        for (int landing : Scenes.wrongNumbers(3)) {
            Check.outside(Scenes::busy, "would(0, " + landing + ")", x -> x.would(0, landing));
            Check.outside(Scenes::full, "would(2, " + landing + ")", x -> x.would(2, landing));
        }
    }
}
