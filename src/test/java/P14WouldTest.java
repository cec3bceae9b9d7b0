/** Promise 14: would. */
public final class P14WouldTest {
    public static void main(String[] args) {
        ordinary();
        priceOnTheDayOfComing();
        asItComesTrue();
        wrongInputs();
        Check.end();
    }

    private static void ordinary() {
        SedgeBarges x = new SedgeBarges();
        x.bed(2, 9, 90);
        x.barge(2);
        x.barge(2);
        x.cut(0);
        x.tie(0);
        x.load(0, 0);
        Check.tells(x, "would(0, 0)", 97 * 12 + 3 * 6, () -> x.would(0, 0));
        Check.tells(x, "would(0, 1)", 97 * 9 + 3 * 4, () -> x.would(0, 1));
        Check.tells(x, "would(0, 2)", 97 * 14 + 3 * 7, () -> x.would(0, 2));
        Check.tells(x, "would(1, 2) of nothing", 0, () -> x.would(1, 2));
        x.sail(0, 30);
        Check.tells(x, "would(0, 1) with another goal", 97 * 9 + 3 * 4, () -> x.would(0, 1));
        Check.same("told(0, 1)", x.told(0, 1), 30);
    }

    private static SedgeBarges withStoreAtTheFirst() {
        SedgeBarges x = new SedgeBarges();
        x.bed(2, 9, 100);
        x.bed(12, 1, 100);
        x.bed(13, 1, 50);
        x.barge(2);
        x.barge(12);
        x.barge(13);
        x.buy(200);
        for (int bed = 0; bed < 3; bed++) {
            x.cut(bed);
            x.tie(bed);
            x.load(bed, bed);
        }
        x.sell(0);
        return x;
    }

    private static void priceOnTheDayOfComing() {
        SedgeBarges x = withStoreAtTheFirst();
        // 108 in store now, 102 behind a day, 96 behind two, 91 behind three: 8, 8, 9, 9 coins.
        Check.landingIs(x, 0, 2, 108, 8, 4);
        Check.tells(x, "would(1, 0), two days away", 12 * 9, () -> x.would(1, 0));
        Check.tells(x, "would(2, 0), three days away", 6 * 9 + 6 * 4, () -> x.would(2, 0));
        x.sail(1, 7);
        x.pass(1);
        // 102 in store now, and a day to go.
        Check.tells(x, "would(1, 0), a day away", 12 * 9, () -> x.would(1, 0));
    }

    private static void asItComesTrue() {
        for (int landing = 0; landing < 3; landing++) {
            SedgeBarges x = withStoreAtTheFirst();
            int coins = x.would(2, landing);
            int places = new int[] {2, 15, 28}[landing];
            x.pass(x.sail(2, places));
            Check.same("sell(2) at " + landing, x.sell(2), coins);
        }
    }

    private static void wrongInputs() {
        SedgeBarges x = new SedgeBarges();
        Check.outside(x, "would(0, 0) without barges", () -> x.would(0, 0));
        x.barge(2);
        Check.outside(x, "would(-1, 0)", () -> x.would(-1, 0));
        Check.outside(x, "would(1, 0)", () -> x.would(1, 0));
        Check.outside(x, "would(0, -1)", () -> x.would(0, -1));
        Check.outside(x, "would(0, 3)", () -> x.would(0, 3));
        Check.outside(x, "would(MAX, MAX)", () -> x.would(Integer.MAX_VALUE, Integer.MAX_VALUE));
    }
}
