/** Promise 11: sell. */
public final class P11SellTest {
    public static void main(String[] args) {
        ordinary();
        pricesFall();
        onItsWay();
        wrongInputs();
        Check.end();
    }

    private static SedgeBarges loaded(int place, int size, int sedge) {
        SedgeBarges x = new SedgeBarges();
        x.bed(place, size, sedge);
        x.barge(place);
        x.cut(0);
        x.tie(0);
        x.load(0, 0);
        return x;
    }

    private static void ordinary() {
        SedgeBarges x = loaded(2, 5, 50);
        Check.same("sell(0) at 0: 30 * 12 + 30 * 6", x.sell(0), 540);
        Check.bargeIs(x, 0, 2, -1, 0, 0, 0, 540);
        Check.landingIs(x, 0, 2, 60, 10, 5);
        Check.landingIs(x, 1, 15, 0, 9, 4);
        Check.countsAre(x, 0, 560, 40, 1, 0, 0, 0, 1, 0, 60, 0);
        Check.same("sell(0) of nothing", x.sell(0), 0);
        SedgeBarges y = loaded(15, 5, 50);
        Check.same("sell(0) at 1: 30 * 9 + 30 * 4", y.sell(0), 390);
        SedgeBarges z = loaded(28, 5, 50);
        Check.same("sell(0) at 2: 30 * 14 + 30 * 7", z.sell(0), 630);
    }

    private static void pricesFall() {
        SedgeBarges x = new SedgeBarges();
        x.bed(15, 2, 50);
        x.bed(15, 1, 100);
        x.bed(15, 9, 0);
        x.bed(15, 9, 0);
        x.bed(15, 1, 50);
        x.barge(15);
        x.buy(200);
        for (int bed = 0; bed < 5; bed++) {
            x.cut(bed);
            x.tie(bed);
            x.load(0, bed);
            if (bed == 0) {
                Check.same("sell(0) at 9 and 4", x.sell(0), 12 * 9 + 12 * 4);
                // 24 in store are not yet 25.
                Check.landingIs(x, 1, 15, 24, 9, 4);
            } else if (bed == 1) {
                Check.same("sell(0) at 9", x.sell(0), 12 * 9);
                Check.landingIs(x, 1, 15, 36, 8, 4);
            } else if (bed == 2) {
                Check.same("sell(0) of reed at 4", x.sell(0), 108 * 4);
                Check.landingIs(x, 1, 15, 144, 4, 2);
            } else if (bed == 3) {
                Check.same("sell(0) of reed at 2", x.sell(0), 108 * 2);
                // 252 in store would make 9 - 10 coins.
                Check.landingIs(x, 1, 15, 252, 1, 1);
            } else {
                Check.same("sell(0) at 1 at least", x.sell(0), 12);
            }
        }
        Check.same("told(0, 5)", x.told(0, 5), 156 + 108 + 432 + 216 + 12);
        Check.same("coins", x.count(1), 156 + 108 + 432 + 216 + 12);
        Check.same("count(9)", x.count(9), 264);
    }

    private static void onItsWay() {
        SedgeBarges x = loaded(10, 1, 100);
        x.sail(0, 20);
        x.pass(1);
        Check.bargeIs(x, 0, 15, 20, 12, 0, 1, 0);
        Check.same("sell(0) at a landing on its way", x.sell(0), 108);
        Check.bargeIs(x, 0, 15, 20, 0, 0, 1, 108);
    }

    private static void wrongInputs() {
        SedgeBarges x = loaded(3, 1, 100);
        Check.wrongState(x, "sell(0) at no landing", () -> x.sell(0));
        Check.outside(x, "sell(-1)", () -> x.sell(-1));
        Check.outside(x, "sell(1)", () -> x.sell(1));
        Check.outside(x, "sell(MAX)", () -> x.sell(Integer.MAX_VALUE));
        SedgeBarges y = new SedgeBarges();
        Check.outside(y, "sell(0) without barges", () -> y.sell(0));
    }
}
