import java.util.function.Supplier;

/** Promise 11: sell. */
public final class P11SellTest {
    private static final int[] STORES = {0, 1, 24, 25, 49, 50, 74, 75, 199, 200, 224, 225, 249, 250, 274, 275, 276,
        299, 300, 324, 325, 349, 350, 374, 375, 640};

    public static void main(String[] args) {
        Check.holds("Sells all that is aboard at the landing where the barge is", P11SellTest::all);
        Check.holds("each bundle of sedge for what it is worth there, less 1 for each 25 bundles (cut) that are in "
                + "store .., but at least 1", P11SellTest::sedgePrice);
        Check.holds("each one of reed for half of this (cut), but at least 1", P11SellTest::reedPrice);
        Check.holds("ahead of this", P11SellTest::aheadOfThis);
        Check.holds("then all is in store there", P11SellTest::inStore);
        Check.holds("Returns how many coins this brings.", P11SellTest::coins);
        Check.holds("Throws IndexOutOfBoundsException if there is no such barge", P11SellTest::noSuchBarge);
        Check.holds("Throws IllegalStateException if it is at no landing", P11SellTest::atNoLanding);
        Check.end();
    }

    /** A barge with 12 bundles aboard, which lies at the place. */
    private static SedgeBarges loaded(int place, int sedge) {
        SedgeBarges x = new SedgeBarges();
        x.bed(place, 1, sedge);
        x.barge(place);
        x.cut(0);
        x.tie(0);
        x.load(0, 0);
        return x;
    }

    private static void all() {
        int[] due = {6 * 12 + 6 * 6, 6 * 9 + 6 * 4, 6 * 14 + 6 * 7};
        for (int landing = 0; landing < 3; landing++) {
            int place = Scenes.LANDING_PLACES[landing];
            SedgeBarges x = loaded(place, 50);
            x.barge(place);
            Check.same("sell(0) at " + landing, x.sell(0), due[landing]);
            Check.bargeIs(x, 0, place, -1, 0, 0, landing, due[landing]);
            Check.bargeIs(x, 1, place, -1, 0, 0, landing, 0);
            Check.same("sell(0) of nothing", x.sell(0), 0);
            Check.same("sell(1) of nothing", x.sell(1), 0);
        }
        SedgeBarges x = loaded(10, 100);
        x.sail(0, 20);
        x.pass(1);
        Check.bargeIs(x, 0, 15, 20, 12, 0, 1, 0);
        Check.same("sell(0) at a landing on its way", x.sell(0), 108);
        Check.bargeIs(x, 0, 15, 20, 0, 0, 1, 108);
    }

    private static int sedgePriceDue(int landing, int store) {
        int price = new int[] {12, 9, 14}[landing];
        for (int left = store; left >= 25; left -= 25) {
            price--;
        }
        return price < 1 ? 1 : price;
    }

    private static void sedgePrice() {
        for (int landing = 0; landing < 3; landing++) {
            for (int store : STORES) {
                SedgeBarges x = Scenes.withStore(landing, store, 100);
                Check.same("landing(" + landing + ", 1)", x.landing(landing, 1), store);
                int due = 12 * sedgePriceDue(landing, store);
                Check.same("sell(0) of sedge at " + landing + " with " + store, x.sell(0), due);
            }
        }
        int[] stores = {24, 25, 49, 50, 199, 200, 224, 225, 250, 640};
        int[] due = {9, 8, 8, 7, 2, 1, 1, 1, 1, 1};
        for (int i = 0; i < stores.length; i++) {
            Check.same("sell(0) of sedge with " + stores[i], Scenes.withStore(1, stores[i], 100).sell(0), 12 * due[i]);
        }
    }

    private static void reedPrice() {
        int[] stores = {0, 24, 25, 49, 50, 100, 149, 150, 199, 200, 225, 640};
        int[] due = {4, 4, 4, 4, 3, 2, 2, 1, 1, 1, 1, 1};
        for (int i = 0; i < stores.length; i++) {
            Check.same("sell(0) of reed with " + stores[i], Scenes.withStore(1, stores[i], 0).sell(0), 12 * due[i]);
        }
        Check.same("sell(0) of reed at 0", loaded(2, 0).sell(0), 12 * 6);
        Check.same("sell(0) of reed at 1, half of 9", loaded(15, 0).sell(0), 12 * 4);
        Check.same("sell(0) of reed at 2", loaded(28, 0).sell(0), 12 * 7);
        Check.same("sell(0) of reed at 0, half of 11", Scenes.withStore(0, 25, 0).sell(0), 12 * 5);
        Check.same("sell(0) of reed at 2, half of 13", Scenes.withStore(2, 25, 0).sell(0), 12 * 6);
        Check.same("sell(0) of each, at 3 and 1", Scenes.withStore(1, 150).sell(0), 6 * 3 + 6);
    }

    private static void aheadOfThis() {
        SedgeBarges x = Scenes.withTies(2, 100, 150);
        x.bed(2, 9, 50);
        x.barge(2);
        x.cut(2);
        x.tie(1);
        x.tie(2);
        x.load(0, 1);
        x.load(0, 2);
        Check.bargeIs(x, 0, 2, -1, 150, 0);
        Check.same("sell(0) of 150 for as much each", x.sell(0), 150 * 12);
        Check.landingIs(x, 0, 2, 150, 6, 3);
        SedgeBarges y = Scenes.withStore(1, 24);
        Check.same("sell(0) of the 25th to the 36th", y.sell(0), 6 * 9 + 6 * 4);
        Check.landingIs(y, 1, 15, 36, 8, 4);
    }

    private static void inStore() {
        for (int landing = 0; landing < 3; landing++) {
            SedgeBarges x = Scenes.withStore(landing, 75);
            x.sell(0);
            for (int other = 0; other < 3; other++) {
                Check.same("landing(" + other + ", 1)", x.landing(other, 1), other == landing ? 87 : 0);
            }
            Check.same("count(8)", x.count(8), 0);
            Check.same("count(9)", x.count(9), 87);
        }
    }

    private static void coins() {
        SedgeBarges x = loaded(15, 50);
        Check.same("sell(0)", x.sell(0), 78);
        Check.same("coins", x.count(1), 98);
        Check.same("told(0, 5)", x.told(0, 5), 78);
        x.pass(100);
        x.cut(0);
        x.tie(0);
        x.load(0, 0);
        // 3 bundles, 1 of sedge.
        Check.same("sell(0)", x.sell(0), 9 + 2 * 4);
        Check.same("coins", x.count(1), 115);
        Check.same("told(0, 5)", x.told(0, 5), 95);
    }

    private static void noSuchBarge() {
        for (Supplier<SedgeBarges> scene : Scenes.ALL) {
            for (int barge : Scenes.wrongNumbers(scene.get().count(7), 3)) {
                Check.outside(scene, "sell(" + barge + ")", x -> x.sell(barge));
            }
        }
        SedgeBarges x = Scenes.full();
        x.sail(2, 2);
        x.pass(2);
        Check.same("sell(2) of 3 barges", x.sell(2), 0);
    }

    private static void atNoLanding() {
        for (int place = 0; place <= 30; place++) {
            if (place != 2 && place != 15 && place != 28) {
                int there = place;
                Check.wrongState(() -> loaded(there, 50), "sell(0) at " + place, x -> x.sell(0));
            }
        }
        Check.same("sell(0) at 2", loaded(2, 50).sell(0), 108);
        Check.same("sell(0) at 15", loaded(15, 50).sell(0), 78);
        Check.same("sell(0) at 28", loaded(28, 50).sell(0), 126);
        Check.wrongState(Scenes::full, "sell(2) of nothing, at no landing", x -> x.sell(2));
        Check.wrongState(Scenes::busy, "sell(1) with a goal, at no landing", x -> x.sell(1));
    }
}
