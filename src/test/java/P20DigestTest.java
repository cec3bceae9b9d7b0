import java.math.BigInteger;
import java.util.function.Supplier;

/** Promise 20: digest. */
public final class P20DigestTest {
    public static void main(String[] args) {
        Check.holds("A number d starts with 1277; for each of the following numbers x, d becomes d * 31 + x",
                P20DigestTest::ofNewObject);
        Check.holds("which wraps around as a 64-bit integer", P20DigestTest::wrapsAround);
        Check.holds("what count() tells, in its order; for each bed what about() tells, for each barge what told() "
                + "tells, for each landing what landing() tells, all in their order.", P20DigestTest::allInTheirOrder);
        Check.holds("(nothing is changed)", P20DigestTest::nothingIsChanged);
        Check.end();
    }

    /** By numbers without a bound, cut to the 64 lowest bits, of which the first one is the sign. */
    private static BigInteger unbounded(long... numbers) {
        BigInteger d = BigInteger.valueOf(1277);
        for (long number : numbers) {
            d = d.multiply(BigInteger.valueOf(31)).add(BigInteger.valueOf(number));
        }
        return d;
    }

    private static long[] numbersOf(SedgeBarges x) {
        String[] words = Check.picture(x).replaceAll("[a-z,]", "").trim().split(" +");
        long[] numbers = new long[words.length];
        for (int i = 0; i < words.length; i++) {
            numbers[i] = Long.parseLong(words[i]);
        }
        return numbers;
    }

    private static void ofNewObject() {
        long due = unbounded(0, 20, 100, 0, 0, 0, 0, 0, 0, 0, 0, 2, 0, 12, 6, 15, 0, 9, 4, 28, 0, 14, 7).longValue();
        Check.same("digest() of a new object", new SedgeBarges().digest(), due);
    }

    private static void wrapsAround() {
        boolean below = false;
        boolean above = false;
        for (int days = 1; days <= 40; days++) {
            SedgeBarges x = new SedgeBarges();
            x.pass(days);
            BigInteger due = unbounded(numbersOf(x));
            Check.same("bits beyond 64 without a wrap-around", due.bitLength() > 64 ? 1 : 0, 1);
            Check.same("digest() on the day " + days, x.digest(), due.longValue());
            below |= x.digest() < 0;
            above |= x.digest() > 0;
        }
        Check.same("some digests below 0, and some above", below && above ? 1 : 0, 1);
    }

    private static void allInTheirOrder() {
        for (Supplier<SedgeBarges> scene : Scenes.ALL) {
            SedgeBarges x = scene.get();
            Check.same("digest()", x.digest(), unbounded(numbersOf(x)).longValue());
            x.pass(101);
            Check.same("digest() later", x.digest(), unbounded(numbersOf(x)).longValue());
        }
        Check.same("numbers of 8 beds and 3 barges", numbersOf(Scenes.full()).length, 11 + 80 + 18 + 12);
        SedgeBarges x = new SedgeBarges();
        x.barge(4);
        // Without a goal, and at no landing, it is told -1 twice.
        long due = unbounded(0, 20, 100, 0, 0, 0, 0, 1, 0, 0, 0, 4, -1, 0, 0, -1, 0,
                2, 0, 12, 6, 15, 0, 9, 4, 28, 0, 14, 7).longValue();
        Check.same("digest() with a barge", x.digest(), due);
    }

    private static void nothingIsChanged() {
        for (Supplier<SedgeBarges> scene : Scenes.ALL) {
            Check.tells(scene, "digest() again", scene.get().digest(), x -> {
                x.digest();
                return x.digest();
            });
        }
    }
}
