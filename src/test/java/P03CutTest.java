/** Promise 3: cut. */
public final class P03CutTest {
    public static void main(String[] args) {
        ordinary();
        addedToWhatLies();
        growthByAge();
        wrongInputs();
        Check.end();
    }

    private static void ordinary() {
        SedgeBarges x = new SedgeBarges();
        x.bed(2, 5, 33);
        x.bed(2, 9, 90);
        Check.same("cut(0)", x.cut(0), 60);
        // 60 * 33 / 100 is 19.8, cut to 19.
        Check.bedIs(x, 0, 2, 5, 0, 33, 0, 0, 19, 41, 0, 0);
        Check.bedIs(x, 1, 2, 9, 3, 90, 108, 97, 0, 0, 0, 0);
        Check.countsAre(x, 0, 20, 100, 2, 108, 60, 0, 0, 0, 0, 0);
    }

    private static void addedToWhatLies() {
        SedgeBarges x = new SedgeBarges();
        x.bed(2, 9, 50);
        x.pass(99);
        x.cut(0);
        Check.same("tie(0)", x.tie(0), 100);
        // 54 of sedge and 46 of reed are tied, 8 of reed lie untied, of which one rots.
        x.pass(1);
        Check.bedIs(x, 0, 2, 9, 1, 50, 27, 13, 0, 7, 54, 46);
        Check.same("cut(0)", x.cut(0), 27);
        Check.bedIs(x, 0, 2, 9, 0, 50, 0, 0, 13, 21, 54, 46);

        SedgeBarges y = new SedgeBarges();
        y.bed(2, 9, 70);
        y.pass(99);
        y.cut(0);
        // 75 of sedge and 33 of reed, of which 8 and 4 rot.
        y.pass(1);
        Check.same("cut(0) onto untied ones", y.cut(0), 27);
        Check.bedIs(y, 0, 2, 9, 0, 70, 0, 0, 67 + 18, 29 + 9, 0, 0);
    }

    private static void growthByAge() {
        int[] growth = {4, 6, 6, 5, 4, 3, 2, 2};
        for (int years = 0; years < growth.length; years++) {
            SedgeBarges x = new SedgeBarges();
            x.bed(2, 7, 0);
            for (int year = 0; year < years; year++) {
                x.pass(100);
            }
            Check.same("cut(0) behind " + years + " years", x.cut(0), 21 * growth[years]);
        }
        int[] young = {1, 2};
        for (int years = 1; years <= 2; years++) {
            SedgeBarges x = new SedgeBarges();
            x.bed(2, 7, 0);
            x.cut(0);
            x.pass(100);
            if (years == 2) {
                x.pass(100);
            }
            Check.same("cut(0) at the age of " + years, x.cut(0), 21 * young[years - 1]);
        }
    }

    private static void wrongInputs() {
        SedgeBarges x = new SedgeBarges();
        Check.outside(x, "cut(0) without beds", () -> x.cut(0));
        x.bed(2, 1, 100);
        Check.outside(x, "cut(-1)", () -> x.cut(-1));
        Check.outside(x, "cut(1)", () -> x.cut(1));
        Check.outside(x, "cut(8)", () -> x.cut(8));
        Check.outside(x, "cut(MIN)", () -> x.cut(Integer.MIN_VALUE));
        Check.outside(x, "cut(MAX)", () -> x.cut(Integer.MAX_VALUE));
        x.cut(0);
        Check.wrongState(x, "cut(0) at the age of 0", () -> x.cut(0));
    }
}
