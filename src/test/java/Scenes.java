import java.util.Arrays;
import java.util.List;
import java.util.function.Supplier;

/** Objects on which some work has been done, the same ones each time. */
final class Scenes {
    static final int[] LANDING_PLACES = {2, 15, 28};
    static final List<Supplier<SedgeBarges>> ALL =
            List.of(Scenes::empty, Scenes::busy, Scenes::full, Scenes::poor);

    private Scenes() {
    }

    /** The numbers told, and some that are no bed, barge, landing, place, size, day or figure whatever there is. */
    static int[] wrongNumbers(int... told) {
        int[] never = {Integer.MIN_VALUE, -1000, -1, 501, Integer.MAX_VALUE};
        int[] all = Arrays.copyOf(told, told.length + never.length);
        System.arraycopy(never, 0, all, told.length, never.length);
        return all;
    }

    static SedgeBarges empty() {
        return new SedgeBarges();
    }

    /**
     * Nothing told is as at first: of 5 beds and 2 barges there is tied and untied, aboard, on its way, in store.
     * The bed 2 has an age of 1, the others one of 0; the barge 0 is at the landing 0, the barge 1 is at none,
     * and both have goals.
     */
    static SedgeBarges busy() {
        SedgeBarges x = new SedgeBarges();
        x.bed(2, 9, 60);
        x.bed(15, 8, 45);
        x.bed(28, 7, 70);
        x.bed(4, 6, 33);
        x.bed(17, 5, 20);
        x.barge(2);
        x.barge(15);
        x.pass(98);
        earn(x, 0, 0);
        x.buy(500);
        earn(x, 1, 1);
        for (int bed = 2; bed < 4; bed++) {
            x.cut(bed);
            x.tie(bed);
        }
        x.pass(2);
        for (int bed = 0; bed < 4; bed++) {
            if (bed != 2) {
                x.cut(bed);
            }
        }
        x.tie(0);
        x.load(0, 0);
        x.tie(1);
        x.load(1, 1);
        x.sail(1, 28);
        x.pass(3);
        x.sell(1);
        x.load(1, 2);
        x.sail(1, 17);
        x.pass(2);
        x.sail(0, 30);
        x.cut(4);
        return x;
    }

    private static void earn(SedgeBarges x, int barge, int bed) {
        x.cut(bed);
        x.tie(bed);
        x.load(barge, bed);
        x.sell(barge);
    }

    /** As busy, but with 8 beds and 3 barges; the barge 2 has nothing aboard and no goal. */
    static SedgeBarges full() {
        SedgeBarges x = busy();
        x.bed(30, 1, 100);
        x.bed(0, 9, 0);
        x.bed(9, 4, 50);
        x.barge(9);
        return x;
    }

    /** Without ties and coins. */
    static SedgeBarges poor() {
        SedgeBarges x = new SedgeBarges();
        x.bed(9, 9, 50);
        x.bed(9, 9, 50);
        x.bed(9, 9, 50);
        x.barge(9);
        x.buy(200);
        for (int bed = 0; bed < 3; bed++) {
            x.cut(bed);
            x.tie(bed);
        }
        return x;
    }

    /** A bed of size 9 at the place, whose 108 bundles lie untied, and so many ties, 192 at most. */
    static SedgeBarges withTies(int place, int sedge, int ties) {
        SedgeBarges x = new SedgeBarges();
        x.bed(29, 9, 100);
        x.bed(place, 9, sedge);
        x.buy(ties + 8);
        x.cut(0);
        x.tie(0);
        x.cut(1);
        return x;
    }

    /**
     * A landing with so many bundles in store, 640 at most, where the barge 0 lies with 12 bundles aboard, of which
     * so many in a hundred are sedge.
     */
    static SedgeBarges withStore(int landing, int store, int sedge) {
        int place = LANDING_PLACES[landing];
        SedgeBarges x = new SedgeBarges();
        x.bed(20, 9, 100);
        x.bed(place, 1, sedge);
        x.barge(place);
        int lot = Math.min(store, 100);
        x.buy(lot + 8);
        x.cut(0);
        x.tie(0);
        // There are as many ties as are to be sold now.
        for (int left = store; left > 0; ) {
            earn(x, 0, x.bed(place, 9, 100));
            left -= lot;
            lot = Math.min(left, 108);
            if (lot > 0) {
                x.buy(lot);
            }
        }
        x.buy(12);
        x.cut(1);
        x.tie(1);
        x.load(0, 1);
        return x;
    }

    /** As above, with 6 bundles of sedge and 6 of reed aboard. */
    static SedgeBarges withStore(int landing, int store) {
        return withStore(landing, store, 50);
    }
}
