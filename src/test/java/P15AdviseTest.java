import java.util.function.Supplier;

/** Promise 15: advise. */
public final class P15AdviseTest {
    public static void main(String[] args) {
        Check.holds("the landing where what is aboard would bring the most coins", P15AdviseTest::theMost);
        Check.holds("barge: a barge", P15AdviseTest::ofAnotherBarge);
        Check.holds("as would() has it", P15AdviseTest::asWouldHasIt);
        Check.holds("as would() has it (on the day of coming, not now)", P15AdviseTest::asOnTheDayOfComing);
        Check.holds("of several the one with the smallest number", P15AdviseTest::theSmallest);
        Check.holds("(nothing is changed)", P15AdviseTest::nothingIsChanged);
        Check.holds("Throws IndexOutOfBoundsException if there is no such barge", P15AdviseTest::noSuchBarge);
        Check.end();
    }

    private static void advises(Supplier<SedgeBarges> scene, int first, int second, int third, int due) {
        Check.tells(scene, "would(0, 0)", first, x -> x.would(0, 0));
        Check.tells(scene, "would(0, 1)", second, x -> x.would(0, 1));
        Check.tells(scene, "would(0, 2)", third, x -> x.would(0, 2));
        Check.tells(scene, "advise(0)", due, x -> x.advise(0));
    }

    private static void theMost() {
        advises(() -> Scenes.withStore(2, 25, 100), 144, 108, 156, 2);
        advises(() -> Scenes.withStore(2, 75, 100), 144, 108, 132, 0);
        advises(() -> between(10, 15), 12 * 8, 12 * 9, 12 * 8, 1);
    }

    /** The barge 0 has 12 bundles of sedge aboard; the barges 1 and 2 are at 2 and at 28. */
    private static SedgeBarges laden(int place) {
        SedgeBarges x = new SedgeBarges();
        x.bed(place, 1, 100);
        x.barge(place);
        x.barge(2);
        x.barge(28);
        x.cut(0);
        x.tie(0);
        x.load(0, 0);
        return x;
    }

    private static void sellDozens(SedgeBarges x, int barge, int dozens) {
        for (int left = dozens; left > 0; left -= 9) {
            int size = Math.min(9, left);
            int bed = x.bed(x.told(barge, 0), size, 0);
            x.buy(12 * size);
            x.cut(bed);
            x.tie(bed);
            x.load(barge, bed);
            x.sell(barge);
        }
    }

    /** At 15, three days from 2 and from 28, where so many dozens were sold. */
    private static SedgeBarges between(int dozensAt2, int dozensAt28) {
        SedgeBarges x = laden(15);
        sellDozens(x, 1, dozensAt2);
        sellDozens(x, 2, dozensAt28);
        return x;
    }

    /** The barge 0 has 12 bundles of sedge aboard, the barge 1 at the same place so many. */
    private static SedgeBarges withSecond(int store, int size) {
        SedgeBarges x = Scenes.withStore(2, store, 100);
        int bed = x.bed(28, size, 100);
        x.barge(28);
        x.buy(12 * size);
        x.cut(bed);
        x.tie(bed);
        x.load(1, bed);
        return x;
    }

    private static void ofAnotherBarge() {
        Check.tells(() -> withSecond(75, 2), "advise(1) with 75 at 2", 0, x -> x.advise(1));
        Check.tells(() -> withSecond(25, 2), "advise(1) with 25 at 2", 2, x -> x.advise(1));
        Supplier<SedgeBarges> withLess = () -> {
            SedgeBarges x = withSecond(25, 1);
            x.bed(28, 2, 100);
            x.buy(24);
            x.cut(4);
            x.tie(4);
            x.load(0, 4);
            return x;
        };
        Check.tells(withLess, "told(0, 2)", 36, x -> x.told(0, 2));
        Check.tells(withLess, "advise(1) with less than the other", 2, x -> x.advise(1));
    }

    private static void asWouldHasIt() {
        for (int days = 1; days <= 12; days++) {
            for (int barge = 0; barge < 3; barge++) {
                SedgeBarges x = Scenes.full();
                x.pass(days);
                int first = x.would(barge, 0);
                int second = x.would(barge, 1);
                int third = x.would(barge, 2);
                int most = Math.max(first, Math.max(second, third));
                int due = first == most ? 0 : second == most ? 1 : 2;
                Check.same("advise(" + barge + ") behind " + days + " days", x.advise(barge), due);
            }
        }
    }

    private static void asOnTheDayOfComing() {
        // 60 at 2 make 12 coins now, as many as at 0, and come to 48 in four days.
        advises(() -> {
            SedgeBarges x = laden(8);
            sellDozens(x, 2, 5);
            return x;
        }, 144, 108, 156, 2);
        // 184 at 0 come to 174 in a day, 84 at 1 to 71 in three, and 252 at 2 to 183 in six.
        advises(() -> {
            SedgeBarges x = laden(0);
            sellDozens(x, 1, 18);
            x.sail(1, 15);
            x.pass(3);
            sellDozens(x, 1, 7);
            sellDozens(x, 2, 21);
            return x;
        }, 12 * 6, 12 * 7, 12 * 7, 1);
        // 60 at 0 make 10 coins now and come to 45 in five days, 84 at 2 to 79 in one.
        advises(() -> {
            SedgeBarges x = laden(27);
            sellDozens(x, 1, 5);
            sellDozens(x, 2, 7);
            return x;
        }, 12 * 11, 12 * 9, 12 * 11, 0);
    }

    private static void theSmallest() {
        // 50 in store make 12 coins at 2, as many as at 0; 49 make 13, and 75 make 11.
        advises(() -> Scenes.withStore(2, 50, 100), 144, 108, 144, 0);
        advises(() -> Scenes.withStore(2, 49, 100), 144, 108, 156, 2);
        advises(() -> Scenes.withStore(2, 74, 100), 144, 108, 144, 0);
        // 120 at 0 come to 102, or 96 to 81; 156 at 2 come to 133, or 180 to 153.
        advises(() -> between(10, 13), 12 * 8, 12 * 9, 12 * 9, 1);
        advises(() -> between(8, 15), 12 * 9, 12 * 9, 12 * 8, 0);
        advises(() -> between(8, 13), 12 * 9, 12 * 9, 12 * 9, 0);
        Check.tells(Scenes::full, "advise(2) of nothing", 0, x -> x.advise(2));
        Check.tells(Scenes::poor, "advise(0) of nothing", 0, x -> x.advise(0));
    }

    private static void nothingIsChanged() {
        for (int barge = 0; barge < 3; barge++) {
            int asked = barge;
            int due = Scenes.full().advise(barge);
            Check.tells(Scenes::full, "advise(" + barge + ") behind others", due, x -> {
                x.advise(0);
                x.advise(1);
                return x.advise(asked);
            });
        }
    }

    private static void noSuchBarge() {
        for (Supplier<SedgeBarges> scene : Scenes.ALL) {
            for (int barge : Scenes.wrongNumbers(scene.get().count(7), 3)) {
                Check.outside(scene, "advise(" + barge + ")", x -> x.advise(barge));
            }
        }
    }
}
