/** Promise 5: buy. */
public final class P05BuyTest {
    public static void main(String[] args) {
        aCoinForEachTen();
        withoutCoins();
        fiveHundred();
        Check.end();
    }

    private static void aCoinForEachTen() {
        SedgeBarges x = new SedgeBarges();
        Check.same("buy(10)", x.buy(10), 110);
        Check.same("coins", x.count(1), 19);
        Check.same("buy(1)", x.buy(1), 111);
        Check.same("coins", x.count(1), 18);
        Check.same("buy(11)", x.buy(11), 122);
        Check.same("coins", x.count(1), 16);
        Check.same("buy(19)", x.buy(19), 141);
        Check.same("coins", x.count(1), 14);
        Check.same("ties", x.count(2), 141);
    }

    private static void withoutCoins() {
        SedgeBarges x = new SedgeBarges();
        Check.wrongState(x, "buy(201)", () -> x.buy(201));
        Check.wrongState(x, "buy(500)", () -> x.buy(500));
        Check.same("buy(200)", x.buy(200), 300);
        Check.same("coins", x.count(1), 0);
        Check.wrongState(x, "buy(1) without coins", () -> x.buy(1));
        Check.wrongArgument(x, "buy(0) without coins", () -> x.buy(0));
        Check.wrongArgument(x, "buy(501) without coins", () -> x.buy(501));
    }

    private static void fiveHundred() {
        SedgeBarges x = new SedgeBarges();
        x.bed(2, 9, 100);
        x.barge(2);
        x.cut(0);
        x.tie(0);
        x.load(0, 0);
        x.sell(0);
        Check.same("coins", x.count(1), 1220);
        Check.wrongArgument(x, "buy(501)", () -> x.buy(501));
        Check.wrongArgument(x, "buy(0)", () -> x.buy(0));
        Check.wrongArgument(x, "buy(-10)", () -> x.buy(-10));
        Check.wrongArgument(x, "buy(MAX)", () -> x.buy(Integer.MAX_VALUE));
        Check.wrongArgument(x, "buy(MIN)", () -> x.buy(Integer.MIN_VALUE));
        Check.same("buy(500)", x.buy(500), 500);
        Check.same("coins", x.count(1), 1170);
    }
}
