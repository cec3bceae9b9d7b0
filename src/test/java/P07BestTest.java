/** Promise 7: best. */
public final class P07BestTest {
    public static void main(String[] args) {
        ordinary();
        creptInto();
        untilTheNinthYear();
        ofEightBeds();
        wrongInputs();
        Check.end();
    }

    private static void ordinary() {
        SedgeBarges x = new SedgeBarges();
        x.bed(2, 9, 90);
        x.bed(20, 4, 50);
        x.bed(30, 9, 0);
        // 97 now, 149 (of 162 with 92) behind one end, and behind two (94) 152.
        Check.tells(x, "best(0)", 2, () -> x.best(0));
        Check.tells(x, "best(1)", 2, () -> x.best(1));
        // 0, 3 (of 162 with 2), 6 (of 162 with 4), 8 (of 135 with 6), and then 0.
        Check.tells(x, "best(2) of reed alone", 3, () -> x.best(2));
        x.pass(99);
        Check.tells(x, "best(0) on the last day of the year", 2, () -> x.best(0));
        x.pass(1);
        Check.tells(x, "best(0) a day later", 1, () -> x.best(0));
        x.pass(100);
        Check.tells(x, "best(0) another year later", 0, () -> x.best(0));
        x.cut(0);
        // At the age of 4 it is 162 with 100, at 5 as many: the fewest.
        Check.tells(x, "best(0) when it is cut", 4, () -> x.best(0));
    }

    private static void creptInto() {
        SedgeBarges x = new SedgeBarges();
        x.bed(2, 9, 90);
        x.bed(6, 1, 0);
        // 97 now, 144 (of 162 with 89) behind one end, and behind two (88) 142.
        Check.tells(x, "best(0) beside much reed", 1, () -> x.best(0));
        x.bed(20, 9, 90);
        Check.tells(x, "best(2) far from it", 2, () -> x.best(2));
    }

    private static void untilTheNinthYear() {
        SedgeBarges x = new SedgeBarges();
        x.bed(2, 1, 3);
        x.cut(0);
        // From 3: 0 of 0, 0 of 3, 0 of 6, 0 of 12, 1 of 18 with 9, 1 of 18 with 11: the fourth.
        Check.tells(x, "best(0) with little sedge", 4, () -> x.best(0));
        SedgeBarges y = new SedgeBarges();
        y.bed(2, 9, 0);
        for (int year = 0; year < 8; year++) {
            y.pass(100);
        }
        Check.same("about(0, 2)", y.about(0, 2), 9);
        Check.tells(y, "best(0) of an old bed of reed", 0, () -> y.best(0));
    }

    private static void ofEightBeds() {
        SedgeBarges x = new SedgeBarges();
        for (int bed = 0; bed < 8; bed++) {
            x.bed(4 * bed, 9, bed == 7 ? 0 : 90);
        }
        Check.tells(x, "best(5)", 2, () -> x.best(5));
        Check.tells(x, "best(6) beside the last bed", 1, () -> x.best(6));
    }

    private static void wrongInputs() {
        SedgeBarges x = new SedgeBarges();
        Check.outside(x, "best(0) without beds", () -> x.best(0));
        x.bed(2, 1, 100);
        Check.outside(x, "best(-1)", () -> x.best(-1));
        Check.outside(x, "best(1)", () -> x.best(1));
        Check.outside(x, "best(MAX)", () -> x.best(Integer.MAX_VALUE));
    }
}
