/** Promise 8: barge. */
public final class P08BargeTest {
    public static void main(String[] args) {
        SedgeBarges x = new SedgeBarges();
        Check.outside(x, "barge(-1)", () -> x.barge(-1));
        Check.outside(x, "barge(31)", () -> x.barge(31));
        Check.outside(x, "barge(MIN)", () -> x.barge(Integer.MIN_VALUE));
        Check.outside(x, "barge(MAX)", () -> x.barge(Integer.MAX_VALUE));
        Check.same("barge(0)", x.barge(0), 0);
        Check.same("barge(30)", x.barge(30), 1);
        Check.same("count(7)", x.count(7), 2);
        Check.same("barge(15)", x.barge(15), 2);
        Check.same("count(7)", x.count(7), 3);
        Check.same("count(1), as a barge costs nothing", x.count(1), 20);
        Check.bargeIs(x, 0, 0, -1, 0, 0, -1, 0);
        Check.bargeIs(x, 1, 30, -1, 0, 0, -1, 0);
        Check.bargeIs(x, 2, 15, -1, 0, 0, 1, 0);
        Check.wrongState(x, "barge(0), the fourth", () -> x.barge(0));
        Check.outside(x, "barge(31), the fourth", () -> x.barge(31));
        x.pass(5);
        Check.bargeIs(x, 1, 30, -1, 0, 0, -1, 0);
        Check.end();
    }
}
