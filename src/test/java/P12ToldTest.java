/** Promise 12: told. */
public final class P12ToldTest {
    public static void main(String[] args) {
        SedgeBarges x = new SedgeBarges();
        Check.outside(x, "told(0, 0) without barges", () -> x.told(0, 0));
        x.bed(28, 2, 75);
        x.barge(28);
        x.barge(16);
        x.cut(0);
        x.tie(0);
        x.load(0, 0);
        x.sail(0, 9);
        x.sail(1, 15);
        tellsAll(x, 0, 28, 9, 18, 6, 2, 0);
        tellsAll(x, 1, 16, 15, 0, 0, -1, 0);
        x.sell(0);
        tellsAll(x, 0, 28, 9, 0, 0, 2, 18 * 14 + 6 * 7);
        x.pass(1);
        tellsAll(x, 0, 23, 9, 0, 0, -1, 294);
        tellsAll(x, 1, 15, -1, 0, 0, 1, 0);
        x.sail(1, 2);
        x.pass(3);
        tellsAll(x, 1, 2, -1, 0, 0, 0, 0);
        Check.outside(x, "told(-1, 0)", () -> x.told(-1, 0));
        Check.outside(x, "told(2, 0)", () -> x.told(2, 0));
        Check.outside(x, "told(3, 0)", () -> x.told(3, 0));
        Check.outside(x, "told(0, -1)", () -> x.told(0, -1));
        Check.outside(x, "told(0, 6)", () -> x.told(0, 6));
        Check.outside(x, "told(0, MIN)", () -> x.told(0, Integer.MIN_VALUE));
        Check.end();
    }

    private static void tellsAll(SedgeBarges x, int barge, int... due) {
        for (int what = 0; what < due.length; what++) {
            int asked = what;
            Check.tells(x, "told(" + barge + ", " + what + ")", due[what], () -> x.told(barge, asked));
        }
    }
}
