/** Promise 16: count. */
public final class P16CountTest {
    public static void main(String[] args) {
        SedgeBarges x = new SedgeBarges();
        x.bed(2, 2, 50);
        x.bed(15, 3, 100);
        x.bed(9, 9, 10);
        x.barge(2);
        x.barge(15);
        tellsAll(x, 0, 20, 100, 3, 168, 0, 0, 2, 0, 0, 0);
        x.cut(0);
        tellsAll(x, 0, 20, 100, 3, 144, 24, 0, 2, 0, 0, 0);
        x.tie(0);
        tellsAll(x, 0, 20, 76, 3, 144, 0, 24, 2, 0, 0, 0);
        x.cut(1);
        x.pass(1);
        // Of 36 of sedge 4 rot.
        tellsAll(x, 1, 20, 76, 3, 108, 32, 24, 2, 0, 0, 4);
        x.tie(1);
        tellsAll(x, 1, 20, 44, 3, 108, 0, 56, 2, 0, 0, 4);
        x.load(0, 0);
        x.load(1, 1);
        tellsAll(x, 1, 20, 44, 3, 108, 0, 0, 2, 56, 0, 4);
        x.sell(0);
        tellsAll(x, 1, 20 + 216, 44, 3, 108, 0, 0, 2, 32, 24, 4);
        x.sell(1);
        tellsAll(x, 1, 236 + 288, 44, 3, 108, 0, 0, 2, 0, 56, 4);
        x.buy(41);
        tellsAll(x, 1, 519, 85, 3, 108, 0, 0, 2, 0, 56, 4);
        x.cut(2);
        // 10 of sedge and 98 of reed: 1 and 10 rot, then 1 and 9; of 24 and 32 in store 2 each go, twice.
        x.pass(2);
        tellsAll(x, 3, 519, 85, 3, 0, 87, 0, 2, 0, 48, 25);
        Check.outside(x, "count(-1)", () -> x.count(-1));
        Check.outside(x, "count(11)", () -> x.count(11));
        Check.outside(x, "count(MIN)", () -> x.count(Integer.MIN_VALUE));
        Check.outside(x, "count(MAX)", () -> x.count(Integer.MAX_VALUE));
        Check.end();
    }

    private static void tellsAll(SedgeBarges x, int... due) {
        for (int what = 0; what < due.length; what++) {
            int asked = what;
            Check.tells(x, "count(" + what + ")", due[what], () -> x.count(asked));
        }
    }
}
