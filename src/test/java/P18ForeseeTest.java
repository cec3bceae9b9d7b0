/** Promise 18: foresee. */
public final class P18ForeseeTest {
    public static void main(String[] args) {
        SedgeBarges x = someWork();
        int[] days = {1, 2, 3, 7, 42, 97, 98, 100, 197, 198, 200};
        int[] whats = {4, 5, 9, 10};
        for (int ahead : days) {
            SedgeBarges y = someWork();
            y.pass(ahead);
            for (int what : whats) {
                Check.tells(x, "foresee(" + ahead + ", " + what + ")", y.count(what), () -> x.foresee(ahead, what));
            }
        }
        // The beds 0 and 1 are cut, and the bed 2 of size 4 is 3 years old; the year ends behind 98 days.
        Check.tells(x, "foresee(1, 4)", 48, () -> x.foresee(1, 4));
        Check.tells(x, "foresee(100, 4)", 18 + 27 + 72, () -> x.foresee(100, 4));
        ofEightBeds();
        wrongInputs();
        Check.end();
    }

    private static SedgeBarges someWork() {
        SedgeBarges x = new SedgeBarges();
        x.bed(2, 6, 80);
        x.bed(15, 9, 35);
        x.bed(5, 4, 20);
        x.barge(2);
        x.barge(15);
        x.cut(0);
        x.tie(0);
        x.load(0, 0);
        x.sell(0);
        x.cut(1);
        x.pass(1);
        x.tie(1);
        x.load(1, 1);
        x.sail(1, 2);
        x.pass(1);
        return x;
    }

    private static void ofEightBeds() {
        SedgeBarges x = new SedgeBarges();
        for (int bed = 0; bed < 8; bed++) {
            x.bed(bed, 1, 10);
            x.cut(bed);
        }
        // 1 of sedge and 11 of reed on each bank: 1 and 2 rot, then 1, and each day 1.
        Check.tells(x, "foresee(1, 10)", 24, () -> x.foresee(1, 10));
        Check.tells(x, "foresee(2, 10)", 32, () -> x.foresee(2, 10));
        Check.tells(x, "foresee(2, 5)", 64, () -> x.foresee(2, 5));
        Check.tells(x, "foresee(200, 4)", 8 * 6, () -> x.foresee(200, 4));
    }

    private static void wrongInputs() {
        SedgeBarges x = someWork();
        Check.wrongArgument(x, "foresee(0, 4)", () -> x.foresee(0, 4));
        Check.wrongArgument(x, "foresee(-1, 4)", () -> x.foresee(-1, 4));
        Check.wrongArgument(x, "foresee(201, 4)", () -> x.foresee(201, 4));
        Check.wrongArgument(x, "foresee(MAX, 4)", () -> x.foresee(Integer.MAX_VALUE, 4));
        Check.wrongArgument(x, "foresee(0, 3)", () -> x.foresee(0, 3));
        Check.wrongArgument(x, "foresee(201, -1)", () -> x.foresee(201, -1));
        int[] none = {Integer.MIN_VALUE, -1, 0, 1, 2, 3, 6, 7, 8, 11, Integer.MAX_VALUE};
        for (int what : none) {
            Check.outside(x, "foresee(1, " + what + ")", () -> x.foresee(1, what));
        }
    }
}
