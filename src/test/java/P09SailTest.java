/** Promise 9: sail. */
public final class P09SailTest {
    public static void main(String[] args) {
        daysAndGoal();
        anotherGoal();
        wrongInputs();
        Check.end();
    }

    private static void daysAndGoal() {
        int[] places = {0, 1, 4, 5, 6, 10, 11, 29, 30};
        int[] days = {0, 1, 1, 1, 2, 2, 3, 6, 6};
        for (int i = 0; i < places.length; i++) {
            SedgeBarges x = new SedgeBarges();
            x.barge(0);
            Check.same("sail(0, " + places[i] + ")", x.sail(0, places[i]), days[i]);
            Check.bargeIs(x, 0, 0, places[i] == 0 ? -1 : places[i]);
            SedgeBarges y = new SedgeBarges();
            y.barge(30);
            Check.same("sail back by " + places[i], y.sail(0, 30 - places[i]), days[i]);
            Check.bargeIs(y, 0, 30, places[i] == 0 ? -1 : 30 - places[i]);
            for (int day = 1; day <= days[i]; day++) {
                x.pass(1);
                y.pass(1);
                int gone = Math.min(5 * day, places[i]);
                int goal = day == days[i] ? -1 : places[i];
                Check.bargeIs(x, 0, gone, goal);
                Check.bargeIs(y, 0, 30 - gone, goal == -1 ? -1 : 30 - goal);
            }
            x.pass(1);
            Check.bargeIs(x, 0, places[i], -1);
        }
    }

    private static void anotherGoal() {
        SedgeBarges x = new SedgeBarges();
        x.barge(10);
        x.barge(10);
        x.sail(0, 30);
        Check.bargeIs(x, 1, 10, -1);
        x.pass(1);
        Check.same("sail(0, 0) on its way", x.sail(0, 0), 3);
        Check.bargeIs(x, 0, 15, 0);
        Check.same("sail(0, 15) where it is", x.sail(0, 15), 0);
        Check.bargeIs(x, 0, 15, -1);
        x.pass(2);
        Check.bargeIs(x, 0, 15, -1);
        Check.same("sail(1, 2)", x.sail(1, 2), 2);
        x.pass(2);
        Check.bargeIs(x, 1, 2, -1, 0, 0, 0);
        Check.bargeIs(x, 0, 15, -1, 0, 0, 1);
    }

    private static void wrongInputs() {
        SedgeBarges x = new SedgeBarges();
        Check.outside(x, "sail(0, 0) without barges", () -> x.sail(0, 0));
        x.barge(3);
        Check.outside(x, "sail(-1, 0)", () -> x.sail(-1, 0));
        Check.outside(x, "sail(1, 0)", () -> x.sail(1, 0));
        Check.outside(x, "sail(3, 0)", () -> x.sail(3, 0));
        Check.outside(x, "sail(0, -1)", () -> x.sail(0, -1));
        Check.outside(x, "sail(0, 31)", () -> x.sail(0, 31));
        Check.outside(x, "sail(0, MIN)", () -> x.sail(0, Integer.MIN_VALUE));
    }
}
