import java.util.function.Supplier;

/** Promise 3: cut. */
public final class P03CutTest {
    public static void main(String[] args) {
        Check.holds("what it gives lies untied on its bank", P03CutTest::liesUntied);
        Check.holds("added to what lies there", P03CutTest::addedToWhatLies);
        Check.holds("and its age is 0", P03CutTest::ageIsNone);
        Check.holds("Returns how many bundles it gives.", P03CutTest::howMany);
        Check.holds("Throws IndexOutOfBoundsException if there is no such bed", P03CutTest::noSuchBed);
        Check.holds("Throws IllegalStateException if its age is 0", P03CutTest::atTheAgeOfNone);
        Check.end();
    }

    private static void liesUntied() {
        SedgeBarges x = new SedgeBarges();
        x.bed(2, 5, 33);
        x.bed(2, 9, 90);
        x.cut(0);
        // 60 * 33 / 100 is 19.8, cut to 19.
        Check.bedIs(x, 0, 2, 5, 0, 33, 0, 0, 19, 41, 0, 0);
        Check.bedIs(x, 1, 2, 9, 3, 90, 108, 97, 0, 0, 0, 0);
        Check.countsAre(x, 0, 20, 100, 2, 108, 60, 0, 0, 0, 0, 0);
    }

    private static void addedToWhatLies() {
        SedgeBarges x = new SedgeBarges();
        x.bed(2, 9, 50);
        x.pass(99);
        x.cut(0);
        Check.same("tie(0)", x.tie(0), 100);
        // 54 of sedge and 46 of reed are tied, 8 of reed lie untied, of which one rots.
        x.pass(1);
        Check.bedIs(x, 0, 2, 9, 1, 50, 27, 13, 0, 7, 54, 46);
        x.cut(0);
        Check.bedIs(x, 0, 2, 9, 0, 50, 0, 0, 13, 21, 54, 46);

        SedgeBarges y = new SedgeBarges();
        y.bed(2, 9, 70);
        y.pass(99);
        y.cut(0);
        // 75 of sedge and 33 of reed, of which 8 and 4 rot.
        y.pass(1);
        y.cut(0);
        Check.bedIs(y, 0, 2, 9, 0, 70, 0, 0, 67 + 18, 29 + 9, 0, 0);
    }

    private static void ageIsNone() {
        for (int years = 0; years <= 7; years++) {
            SedgeBarges x = new SedgeBarges();
            x.bed(2, 1, 50);
            x.bed(20, 1, 50);
            passYears(x, years);
            x.cut(1);
            Check.same("about(1, 2)", x.about(1, 2), 0);
            Check.same("about(0, 2)", x.about(0, 2), Math.min(9, 3 + years));
        }
    }

    private static void passYears(SedgeBarges x, int years) {
        for (int year = 0; year < years; year++) {
            x.pass(100);
        }
    }

    private static void howMany() {
        int[] sedge = {0, 1, 50, 99, 100};
        for (int size = 1; size <= 9; size++) {
            SedgeBarges x = new SedgeBarges();
            for (int part : sedge) {
                int bed = x.bed(2, size, part);
                Check.same("cut(" + bed + ")", x.cut(bed), 12 * size);
            }
        }
        int[] growth = {4, 6, 6, 5, 4, 3, 2, 2};
        for (int years = 0; years < growth.length; years++) {
            SedgeBarges x = new SedgeBarges();
            x.bed(2, 7, 0);
            passYears(x, years);
            Check.same("cut(0) behind " + years + " years", x.cut(0), 21 * growth[years]);
        }
        for (int age = 1; age <= 2; age++) {
            SedgeBarges x = new SedgeBarges();
            x.bed(2, 7, 0);
            x.cut(0);
            passYears(x, age);
            Check.same("cut(0) at the age of " + age, x.cut(0), 21 * age);
        }
    }

    private static void noSuchBed() {
        for (Supplier<SedgeBarges> scene : Scenes.ALL) {
            for (int bed : Scenes.wrongNumbers(scene.get().count(3), 8)) {
                Check.outside(scene, "cut(" + bed + ")", x -> x.cut(bed));
            }
        }
        Check.same("cut(7) of 8 beds", Scenes.full().cut(7), 48);
    }

    private static SedgeBarges cutBed() {
        SedgeBarges x = new SedgeBarges();
        x.bed(2, 1, 100);
        x.pass(99);
        x.cut(0);
        return x;
    }

    private static void atTheAgeOfNone() {
        Check.wrongState(P03CutTest::cutBed, "cut(0) again", x -> x.cut(0));
        Check.wrongState(Scenes::busy, "cut(0) of age 0", x -> x.cut(0));
        Check.wrongState(Scenes::full, "cut(4) of age 0", x -> x.cut(4));
        SedgeBarges x = cutBed();
        x.pass(1);
        Check.same("cut(0) at the age of 1", x.cut(0), 3);
    }
}
