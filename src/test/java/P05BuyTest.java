import java.util.function.Supplier;

/** Promise 5: buy. */
public final class P05BuyTest {
    public static void main(String[] args) {
        Check.holds("a coin for each 10, and for what is left of fewer than 10", P05BuyTest::price);
        Check.holds("Returns how many there are then.", P05BuyTest::howMany);
        Check.holds("Throws IllegalArgumentException if ties is not 1 to 500", P05BuyTest::wrongNumber);
        Check.holds("Throws IllegalStateException if there are not so many coins", P05BuyTest::withoutCoins);
        Check.holds("If several exceptions apply, the one that is named first is thrown.", P05BuyTest::whichComesFirst);
        Check.end();
    }

    private static void price() {
        int[] ties = {1, 9, 10, 11, 19, 20, 21, 99, 100, 101, 190, 191, 199, 200};
        int[] coins = {1, 1, 1, 2, 2, 2, 3, 10, 10, 11, 19, 20, 20, 20};
        for (int i = 0; i < ties.length; i++) {
            SedgeBarges x = new SedgeBarges();
            x.buy(ties[i]);
            Check.same("coins left behind buy(" + ties[i] + ")", x.count(1), 20 - coins[i]);
        }
        for (int number = 491; number <= 500; number++) {
            SedgeBarges x = withCoins(50);
            x.buy(number);
            Check.same("coins left behind buy(" + number + ")", x.count(1), 0);
        }
    }

    private static void howMany() {
        SedgeBarges x = new SedgeBarges();
        Check.same("buy(10)", x.buy(10), 110);
        Check.same("buy(1)", x.buy(1), 111);
        Check.same("buy(11)", x.buy(11), 122);
        Check.same("count(2)", x.count(2), 122);
        SedgeBarges y = Scenes.withTies(5, 50, 50);
        y.tie(1);
        Check.same("buy(3) when there is none", y.buy(3), 3);
    }

    /** 12 bundles of reed bring 48 coins, so there are 68. */
    private static SedgeBarges withCoins(int coins) {
        SedgeBarges x = new SedgeBarges();
        x.bed(15, 1, 0);
        x.barge(15);
        x.cut(0);
        x.tie(0);
        x.load(0, 0);
        x.sell(0);
        if (coins < 68) {
            x.buy(10 * (68 - coins));
        }
        return x;
    }

    private static void wrongNumber() {
        for (int ties : Scenes.wrongNumbers(0, 501, -10)) {
            Check.wrongArgument(Scenes::busy, "buy(" + ties + ")", x -> x.buy(ties));
            Check.wrongArgument(() -> withCoins(68), "buy(" + ties + ")", x -> x.buy(ties));
        }
        Check.same("buy(1)", withCoins(68).buy(1), 89);
        Check.same("buy(500)", withCoins(68).buy(500), 588);
        Check.same("buy(500)", Scenes.busy().buy(500), 691);
    }

    private static void withoutCoins() {
        Check.same("buy(200) for 20", new SedgeBarges().buy(200), 300);
        Check.wrongState(Scenes::empty, "buy(201) for 21", x -> x.buy(201));
        Check.wrongState(Scenes::empty, "buy(500) for 50", x -> x.buy(500));
        Check.same("coins", withCoins(50).count(1), 50);
        Check.same("buy(500) for 50", withCoins(50).buy(500), 768);
        Check.wrongState(() -> withCoins(49), "buy(500) with 49", x -> x.buy(500));
        Check.wrongState(() -> withCoins(49), "buy(491) with 49", x -> x.buy(491));
        Check.same("buy(490) for 49", withCoins(49).buy(490), 768);
        Check.same("buy(10) for the last coin", withCoins(19).buy(10), 588);
        Check.wrongState(() -> withCoins(19), "buy(191) for 20", x -> x.buy(191));
        Check.wrongState(Scenes::poor, "buy(1) without coins", x -> x.buy(1));
        Check.wrongState(Scenes::poor, "buy(500) without coins", x -> x.buy(500));
    }

    private static void whichComesFirst() {
        for (int ties : Scenes.wrongNumbers(0, 501)) {
            Check.wrongArgument(Scenes::poor, "buy(" + ties + ") without coins", x -> x.buy(ties));
        }
        Check.wrongArgument(Scenes::empty, "buy(501) for 51", x -> x.buy(501));
    }
}
