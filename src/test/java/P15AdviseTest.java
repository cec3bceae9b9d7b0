/** Promise 15: advise. */
public final class P15AdviseTest {
    public static void main(String[] args) {
        SedgeBarges x = new SedgeBarges();
        x.bed(28, 9, 100);
        x.bed(28, 1, 100);
        x.barge(28);
        x.barge(28);
        Check.tells(x, "advise(0) of nothing", 0, () -> x.advise(0));
        x.buy(200);
        x.cut(0);
        x.cut(1);
        x.tie(1);
        x.load(1, 1);
        Check.tells(x, "advise(1)", 2, () -> x.advise(1));
        x.tie(0);
        x.load(0, 0);
        x.sell(0);
        // 108 in store make 10 coins at 2.
        Check.tells(x, "advise(1) with 108 in store at 2", 0, () -> x.advise(1));
        Check.same("told(1, 1)", x.told(1, 1), -1);
        ofSeveralTheSmallest();
        theMiddleOne();
        Check.outside(x, "advise(-1)", () -> x.advise(-1));
        Check.outside(x, "advise(2)", () -> x.advise(2));
        Check.outside(x, "advise(MIN)", () -> x.advise(Integer.MIN_VALUE));
        SedgeBarges y = new SedgeBarges();
        Check.outside(y, "advise(0) without barges", () -> y.advise(0));
        Check.end();
    }

    private static void ofSeveralTheSmallest() {
        SedgeBarges x = new SedgeBarges();
        x.bed(28, 5, 100);
        x.bed(28, 1, 100);
        x.barge(28);
        x.barge(28);
        x.cut(0);
        x.cut(1);
        x.tie(0);
        x.load(0, 0);
        x.sell(0);
        x.tie(1);
        x.load(1, 1);
        // 60 in store make 12 coins at 2, as many as at 0.
        Check.same("would(1, 0)", x.would(1, 0), 144);
        Check.same("would(1, 2)", x.would(1, 2), 144);
        Check.tells(x, "advise(1), of two the smallest", 0, () -> x.advise(1));
    }

    private static void theMiddleOne() {
        SedgeBarges x = new SedgeBarges();
        x.bed(2, 9, 0);
        x.bed(2, 9, 0);
        x.bed(28, 9, 0);
        x.bed(28, 9, 0);
        x.bed(20, 1, 100);
        x.barge(2);
        x.barge(28);
        x.barge(20);
        x.buy(200);
        x.cut(4);
        x.tie(4);
        x.load(2, 4);
        for (int bed = 0; bed < 4; bed++) {
            x.cut(bed);
            x.tie(bed);
            x.load(bed / 2, bed);
            x.sell(bed / 2);
            if (bed == 0) {
                x.buy(500);
            }
        }
        Check.same("landing(0, 2)", x.landing(0, 2), 4);
        Check.same("landing(1, 2)", x.landing(1, 2), 9);
        Check.same("landing(2, 2)", x.landing(2, 2), 6);
        // Behind 4 days it is 6 coins at 0, and behind 2 it is 7 at 2.
        Check.tells(x, "advise(2) between full landings", 1, () -> x.advise(2));
    }
}
