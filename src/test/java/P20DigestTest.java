/** Promise 20: digest. */
public final class P20DigestTest {
    public static void main(String[] args) {
        SedgeBarges x = new SedgeBarges();
        isDue(x, 0, 0);
        byNumbersWritten();
        x.bed(15, 9, 80);
        isDue(x, 1, 0);
        x.barge(15);
        x.bed(17, 4, 30);
        isDue(x, 2, 1);
        x.cut(0);
        x.tie(0);
        x.load(0, 0);
        isDue(x, 2, 1);
        x.sell(0);
        x.barge(3);
        x.sail(1, 27);
        x.cut(1);
        isDue(x, 2, 2);
        x.pass(101);
        isDue(x, 2, 2);
        long d = x.digest();
        Check.same("digest() again", x.digest(), d);
        Check.end();
    }

    private static long with(long d, long x) {
        return d * 31 + x;
    }

    private static void byNumbersWritten() {
        long[] numbers = {0, 20, 100, 0, 0, 0, 0, 0, 0, 0, 0, 2, 0, 12, 6, 15, 0, 9, 4, 28, 0, 14, 7};
        long d = 1277;
        for (long number : numbers) {
            d = with(d, number);
        }
        Check.same("digest() of a new object", new SedgeBarges().digest(), d);
    }

    private static void isDue(SedgeBarges x, int beds, int barges) {
        long d = 1277;
        for (int what = 0; what <= 10; what++) {
            d = with(d, x.count(what));
        }
        for (int bed = 0; bed < beds; bed++) {
            for (int what = 0; what <= 9; what++) {
                d = with(d, x.about(bed, what));
            }
        }
        for (int barge = 0; barge < barges; barge++) {
            for (int what = 0; what <= 5; what++) {
                d = with(d, x.told(barge, what));
            }
        }
        for (int landing = 0; landing <= 2; landing++) {
            for (int what = 0; what <= 3; what++) {
                d = with(d, x.landing(landing, what));
            }
        }
        Check.same("digest() with " + beds + " beds and " + barges + " barges", x.digest(), d);
    }
}
