/** Promise 19: mean. */
public final class P19MeanTest {
    public static void main(String[] args) {
        Check.holds("Returns the mean sedge of all beds", P19MeanTest::ofAllBeds);
        Check.holds("(it is not cut, as it is a double)", P19MeanTest::notCut);
        Check.holds("0 if there are none", P19MeanTest::withoutBeds);
        Check.end();
    }

    private static void ofAllBeds() {
        SedgeBarges x = new SedgeBarges();
        x.bed(0, 1, 0);
        Check.sameDouble("mean() of 0", x.mean(), 0);
        x.bed(10, 9, 100);
        Check.sameDouble("mean() of 0 and 100", x.mean(), 50);
        x.bed(20, 1, 26);
        Check.sameDouble("mean() of 0, 100 and 26", x.mean(), 42);
        x.pass(100);
        Check.sameDouble("mean() of 2, 100 and 28", x.mean(), 130 / 3.0);
        SedgeBarges eight = new SedgeBarges();
        for (int bed = 0; bed < 8; bed++) {
            eight.bed(bed, 1, 100);
        }
        Check.sameDouble("mean() of eight with 100", eight.mean(), 100);
        String before = Check.picture(eight);
        eight.mean();
        if (!Check.picture(eight).equals(before)) {
            Check.tell("mean() changed something");
        }
    }

    private static void notCut() {
        int[] sedge = {1, 0, 0, 1, 0, 0, 1, 0};
        SedgeBarges x = new SedgeBarges();
        int sum = 0;
        for (int bed = 0; bed < 8; bed++) {
            x.bed(bed, 1, sedge[bed]);
            sum += sedge[bed];
            Check.sameDouble("mean() of " + sum + " in " + (bed + 1), x.mean(), (double) sum / (bed + 1));
        }
        Check.sameDouble("mean() of 3 in 8", x.mean(), 0.375);
    }

    private static void withoutBeds() {
        Check.sameDouble("mean() without beds", new SedgeBarges().mean(), 0);
        SedgeBarges x = new SedgeBarges();
        x.barge(2);
        x.pass(200);
        Check.sameDouble("mean() without beds, later", x.mean(), 0);
    }
}
