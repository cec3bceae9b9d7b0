import java.util.function.Supplier;

/** Promise 12: told. */
public final class P12ToldTest {
    public static void main(String[] args) {
        Check.holds("what: 0 its place, .. 2 bundles of sedge aboard, 3 those of reed, .. 5 coins that it brought in all",
                P12ToldTest::tellsEach);
        Check.holds("1 its goal, -1 without one", P12ToldTest::goal);
        Check.holds("4 the landing where it is, -1 for none", P12ToldTest::landing);
        Check.holds("Throws IndexOutOfBoundsException if there is no such barge", P12ToldTest::noSuchBarge);
        Check.holds("Throws IndexOutOfBoundsException if .. what is not 0 to 5", P12ToldTest::noSuchFigure);
        Check.end();
    }

    private static SedgeBarges twoBarges() {
        SedgeBarges x = new SedgeBarges();
        x.bed(28, 2, 75);
        x.barge(28);
        x.barge(16);
        x.cut(0);
        x.tie(0);
        x.load(0, 0);
        x.sail(0, 9);
        x.sail(1, 15);
        return x;
    }

    private static SedgeBarges sold() {
        SedgeBarges x = twoBarges();
        x.sell(0);
        return x;
    }

    private static SedgeBarges aDayLater() {
        SedgeBarges x = sold();
        x.pass(1);
        return x;
    }

    private static void tellsAll(Supplier<SedgeBarges> scene, int barge, int... due) {
        for (int what = 0; what < due.length; what++) {
            int asked = what;
            Check.tells(scene, "told(" + barge + ", " + what + ")", due[what], x -> x.told(barge, asked));
        }
    }

    private static void tellsEach() {
        tellsAll(P12ToldTest::twoBarges, 0, 28, 9, 18, 6, 2, 0);
        tellsAll(P12ToldTest::twoBarges, 1, 16, 15, 0, 0, -1, 0);
        tellsAll(P12ToldTest::sold, 0, 28, 9, 0, 0, 2, 18 * 14 + 6 * 7);
        tellsAll(P12ToldTest::aDayLater, 0, 23, 9, 0, 0, -1, 294);
        tellsAll(P12ToldTest::aDayLater, 1, 15, -1, 0, 0, 1, 0);
        tellsAll(Scenes::busy, 0, 2, 30, 16, 17, 0, 984);
        tellsAll(Scenes::busy, 1, 18, 17, 58, 26, -1, 837);
        tellsAll(Scenes::full, 2, 9, -1, 0, 0, -1, 0);
    }

    private static void goal() {
        SedgeBarges x = new SedgeBarges();
        x.barge(5);
        Check.same("told(0, 1) at first", x.told(0, 1), -1);
        x.sail(0, 0);
        Check.same("told(0, 1) with the goal 0", x.told(0, 1), 0);
        x.pass(1);
        Check.same("told(0, 1) at its goal", x.told(0, 1), -1);
        x.sail(0, 30);
        x.pass(5);
        Check.same("told(0, 1) on its way", x.told(0, 1), 30);
        x.pass(1);
        Check.same("told(0, 1) at its goal", x.told(0, 1), -1);
    }

    private static void landing() {
        for (int place = 0; place <= 30; place++) {
            SedgeBarges x = new SedgeBarges();
            x.barge(place);
            int due = place == 2 ? 0 : place == 15 ? 1 : place == 28 ? 2 : -1;
            Check.same("told(0, 4) at " + place, x.told(0, 4), due);
        }
    }

    private static void noSuchBarge() {
        for (Supplier<SedgeBarges> scene : Scenes.ALL) {
            for (int barge : Scenes.wrongNumbers(scene.get().count(7), 3)) {
                Check.outside(scene, "told(" + barge + ", 0)", x -> x.told(barge, 0));
                Check.outside(scene, "told(" + barge + ", 5)", x -> x.told(barge, 5));
                Check.outside(scene, "told(" + barge + ", 6)", x -> x.told(barge, 6));
            }
        }
    }

    private static void noSuchFigure() {
        for (int what : Scenes.wrongNumbers(6)) {
            Check.outside(Scenes::busy, "told(0, " + what + ")", x -> x.told(0, what));
            Check.outside(Scenes::full, "told(2, " + what + ")", x -> x.told(2, what));
        }
    }
}
