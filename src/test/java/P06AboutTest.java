/** Promise 6: about. */
public final class P06AboutTest {
    public static void main(String[] args) {
        SedgeBarges x = new SedgeBarges();
        Check.outside(x, "about(0, 0) without beds", () -> x.about(0, 0));
        x.bed(11, 9, 60);
        x.bed(25, 4, 77);
        x.cut(0);
        x.tie(0);
        // 64 of sedge and 44 of reed, of which 64 and 36 are tied.
        x.pass(100);
        x.cut(0);
        x.pass(99);
        x.cut(1);
        int[] first = {11, 9, 0, 60, 0, 0, 0, 0, 64, 36};
        int[] second = {25, 4, 0, 79, 0, 0, 56, 16, 0, 0};
        for (int what = 0; what < 10; what++) {
            int asked = what;
            Check.tells(x, "about(0, " + what + ")", first[what], () -> x.about(0, asked));
            Check.tells(x, "about(1, " + what + ")", second[what], () -> x.about(1, asked));
        }
        x.pass(1);
        Check.bedIs(x, 0, 11, 9, 1, 60, 27, 16, 0, 0, 64, 36);
        Check.bedIs(x, 1, 25, 4, 1, 79, 12, 9, 50, 14, 0, 0);
        Check.outside(x, "about(-1, 0)", () -> x.about(-1, 0));
        Check.outside(x, "about(2, 0)", () -> x.about(2, 0));
        Check.outside(x, "about(8, 0)", () -> x.about(8, 0));
        Check.outside(x, "about(MIN, 0)", () -> x.about(Integer.MIN_VALUE, 0));
        Check.outside(x, "about(0, -1)", () -> x.about(0, -1));
        Check.outside(x, "about(0, 10)", () -> x.about(0, 10));
        Check.outside(x, "about(0, MAX)", () -> x.about(0, Integer.MAX_VALUE));
        Check.end();
    }
}
