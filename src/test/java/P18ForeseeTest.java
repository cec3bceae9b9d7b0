import java.util.function.Supplier;

/** Promise 18: foresee. */
public final class P18ForeseeTest {
    private static final int[] TOLD = {4, 5, 9, 10};

    public static void main(String[] args) {
        Check.holds("what: 4, 5, 9 or 10 as count() has it", P18ForeseeTest::byNumbers);
        Check.holds("Returns this, behind so many days, if nothing is done (nothing is changed)",
                P18ForeseeTest::asItComesTrue);
        Check.holds("Throws IllegalArgumentException if days is not 1 to 200", P18ForeseeTest::wrongDays);
        Check.holds("Throws IndexOutOfBoundsException if what is none of these", P18ForeseeTest::noneOfThese);
        Check.holds("If several exceptions apply, the one that is named first is thrown.", P18ForeseeTest::whichComesFirst);
        Check.end();
    }

    private static void foresees(Supplier<SedgeBarges> scene, int days, int... due) {
        for (int i = 0; i < TOLD.length; i++) {
            int what = TOLD[i];
            Check.tells(scene, "foresee(" + days + ", " + what + ")", due[i], x -> x.foresee(days, what));
        }
    }

    /** 1 bundle of sedge and 11 of reed lie on each of 8 banks. */
    private static SedgeBarges eightBeds() {
        SedgeBarges x = new SedgeBarges();
        for (int bed = 0; bed < 8; bed++) {
            x.bed(bed, 1, 10);
            x.cut(bed);
        }
        return x;
    }

    private static void byNumbers() {
        // 1 and 2 rot, then 1, and each day 1.
        foresees(P18ForeseeTest::eightBeds, 1, 0, 72, 0, 24);
        foresees(P18ForeseeTest::eightBeds, 2, 0, 64, 0, 32);
        foresees(P18ForeseeTest::eightBeds, 99, 0, 0, 0, 96);
        foresees(P18ForeseeTest::eightBeds, 100, 8 * 3, 0, 0, 96);
        foresees(P18ForeseeTest::eightBeds, 199, 8 * 3, 0, 0, 96);
        foresees(P18ForeseeTest::eightBeds, 200, 8 * 6, 0, 0, 96);
        foresees(Scenes::empty, 200, 0, 0, 0, 0);
        foresees(() -> Scenes.withStore(2, 100), 1, 0, 7, 95, 1);
        foresees(() -> Scenes.withStore(2, 100), 2, 0, 6, 90, 2);
        // Of 6, 19 and 71 untied 1, 2 and 8 rot, and 14 rotted before.
        foresees(Scenes::busy, 1, 21, 96 - 11, 68 - 4 + 64 - 4 + 20 - 1, 14 + 11);
    }

    private static void asItComesTrue() {
        int[] days = {1, 2, 3, 7, 42, 94, 95, 99, 100, 101, 194, 195, 199, 200};
        for (Supplier<SedgeBarges> scene : Scenes.ALL) {
            for (int number : days) {
                SedgeBarges y = scene.get();
                y.pass(number);
                foresees(scene, number, y.count(4), y.count(5), y.count(9), y.count(10));
            }
        }
    }

    private static void wrongDays() {
        for (Supplier<SedgeBarges> scene : Scenes.ALL) {
            for (int days : Scenes.wrongNumbers(0, 201)) {
                for (int what : TOLD) {
                    Check.wrongArgument(scene, "foresee(" + days + ", " + what + ")", x -> x.foresee(days, what));
                }
            }
        }
    }

    private static void noneOfThese() {
        for (Supplier<SedgeBarges> scene : Scenes.ALL) {
            for (int what : Scenes.wrongNumbers(0, 1, 2, 3, 6, 7, 8, 11)) {
                Check.outside(scene, "foresee(1, " + what + ")", x -> x.foresee(1, what));
                Check.outside(scene, "foresee(200, " + what + ")", x -> x.foresee(200, what));
            }
        }
    }

    private static void whichComesFirst() {
        for (int what : Scenes.wrongNumbers(0, 3, 6, 8, 11)) {
            for (int days : Scenes.wrongNumbers(0, 201)) {
                Check.wrongArgument(Scenes::busy, "foresee(" + days + ", " + what + ")", x -> x.foresee(days, what));
            }
        }
    }
}
