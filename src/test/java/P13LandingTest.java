/** Promise 13: landing. */
public final class P13LandingTest {
    public static void main(String[] args) {
        SedgeBarges x = new SedgeBarges();
        x.bed(28, 9, 50);
        x.barge(28);
        x.cut(0);
        x.tie(0);
        x.load(0, 0);
        tellsAll(x, 0, 2, 0, 12, 6);
        tellsAll(x, 1, 15, 0, 9, 4);
        tellsAll(x, 2, 28, 0, 14, 7);
        x.sell(0);
        tellsAll(x, 0, 2, 0, 12, 6);
        tellsAll(x, 1, 15, 0, 9, 4);
        tellsAll(x, 2, 28, 100, 10, 5);
        x.pass(1);
        // A twentieth of 100 are 5, of 95 in store 4.75, rounded up 5.
        tellsAll(x, 2, 28, 95, 11, 5);
        x.pass(1);
        tellsAll(x, 2, 28, 90, 11, 5);
        Check.outside(x, "landing(-1, 0)", () -> x.landing(-1, 0));
        Check.outside(x, "landing(3, 0)", () -> x.landing(3, 0));
        Check.outside(x, "landing(MIN, 0)", () -> x.landing(Integer.MIN_VALUE, 0));
        Check.outside(x, "landing(0, -1)", () -> x.landing(0, -1));
        Check.outside(x, "landing(0, 4)", () -> x.landing(0, 4));
        Check.outside(x, "landing(2, MAX)", () -> x.landing(2, Integer.MAX_VALUE));
        Check.end();
    }

    private static void tellsAll(SedgeBarges x, int landing, int... due) {
        for (int what = 0; what < due.length; what++) {
            int asked = what;
            Check.tells(x, "landing(" + landing + ", " + what + ")", due[what], () -> x.landing(landing, asked));
        }
    }
}
