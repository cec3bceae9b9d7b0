/** The calls that README.md shows answer what it says. */
public final class ReadmeTest {
    public static void main(String[] args) {
        Check.holds("(README.md, 'How to use it')", ReadmeTest::shownCalls);
        Check.end();
    }

    private static void shownCalls() {
        SedgeBarges x = new SedgeBarges();
        int bed = x.bed(2, 9, 90);
        int barge = x.barge(2);
        Check.same("cut", x.cut(bed), 108);
        Check.same("tie", x.tie(bed), 100);
        Check.bedIs(x, bed, 2, 9, 0, 90, 0, 0, 0, 8, 97, 3);
        Check.same("load", x.load(barge, bed), 100);
        int landing = x.advise(barge);
        Check.same("advise", landing, 2);
        Check.same("would", x.would(barge, landing), 1379);
        int days = x.sail(barge, 28);
        Check.same("sail", days, 6);
        x.pass(days);
        Check.same("sell", x.sell(barge), 1379);
    }
}
