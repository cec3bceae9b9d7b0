/** Promise 19: mean. */
public final class P19MeanTest {
    public static void main(String[] args) {
        SedgeBarges x = new SedgeBarges();
        Check.sameDouble("mean() without beds", x.mean(), 0);
        x.bed(0, 1, 0);
        Check.sameDouble("mean() of 0", x.mean(), 0);
        x.bed(10, 9, 25);
        Check.sameDouble("mean() of 0 and 25", x.mean(), 12.5);
        x.bed(20, 1, 100);
        Check.sameDouble("mean() of 0, 25 and 100", x.mean(), 125.0 / 3);
        long before = x.digest();
        x.mean();
        Check.same("digest() behind mean()", x.digest(), before);
        x.pass(100);
        Check.sameDouble("mean() of 2, 27 and 100", x.mean(), 43);
        for (int bed = 3; bed < 8; bed++) {
            x.bed(30, 1, 50);
        }
        Check.sameDouble("mean() of eight", x.mean(), (2 + 27 + 100 + 5 * 50) / 8.0);
        Check.end();
    }
}
