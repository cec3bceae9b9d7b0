/** Promise 10: load. */
public final class P10LoadTest {
    public static void main(String[] args) {
        ordinary();
        asMuchAsThereIsRoomFor();
        reedCutOffByRoom();
        wrongInputs();
        Check.end();
    }

    private static void ordinary() {
        SedgeBarges x = new SedgeBarges();
        x.bed(7, 2, 50);
        x.barge(3);
        x.barge(7);
        Check.same("load(1, 0) of nothing", x.load(1, 0), 0);
        x.cut(0);
        Check.same("load(1, 0) of what is untied", x.load(1, 0), 0);
        x.tie(0);
        Check.same("load(1, 0)", x.load(1, 0), 24);
        Check.bargeIs(x, 1, 7, -1, 12, 12, -1, 0);
        Check.bargeIs(x, 0, 3, -1, 0, 0, -1, 0);
        Check.bedIs(x, 0, 7, 2, 0, 50, 0, 0, 0, 0, 0, 0);
        Check.countsAre(x, 0, 20, 76, 1, 0, 0, 0, 2, 24);
        x.sail(0, 10);
        x.pass(1);
        Check.same("load(1, 0) again", x.load(1, 0), 0);
    }

    private static void asMuchAsThereIsRoomFor() {
        SedgeBarges x = new SedgeBarges();
        x.bed(4, 9, 100);
        x.bed(4, 9, 50);
        x.barge(4);
        x.barge(4);
        x.buy(200);
        x.cut(0);
        x.cut(1);
        x.tie(0);
        x.tie(1);
        Check.same("load(0, 0)", x.load(0, 0), 108);
        // The room for 42 is filled with some of the 54 of sedge.
        Check.same("load(0, 1), sedge first", x.load(0, 1), 42);
        Check.bargeIs(x, 0, 4, -1, 150, 0);
        Check.bedIs(x, 1, 4, 9, 0, 50, 0, 0, 0, 0, 12, 54);
        Check.same("load(0, 1), full", x.load(0, 1), 0);
        Check.same("load(1, 1)", x.load(1, 1), 66);
        Check.bargeIs(x, 1, 4, -1, 12, 54);
        Check.same("count(8)", x.count(8), 216);
    }

    private static void reedCutOffByRoom() {
        SedgeBarges x = new SedgeBarges();
        x.bed(4, 9, 0);
        x.bed(4, 9, 20);
        x.barge(4);
        x.buy(200);
        x.cut(0);
        x.cut(1);
        x.tie(0);
        x.tie(1);
        Check.same("load(0, 0)", x.load(0, 0), 108);
        // 21 of sedge, and 21 of the 87 of reed.
        Check.same("load(0, 1)", x.load(0, 1), 42);
        Check.bargeIs(x, 0, 4, -1, 21, 129);
        Check.bedIs(x, 1, 4, 9, 0, 20, 0, 0, 0, 0, 0, 66);
    }

    private static void wrongInputs() {
        SedgeBarges x = new SedgeBarges();
        Check.outside(x, "load(0, 0) with nothing", () -> x.load(0, 0));
        x.bed(4, 9, 50);
        Check.outside(x, "load(0, 0) without barges", () -> x.load(0, 0));
        x.barge(5);
        x.cut(0);
        x.tie(0);
        Check.wrongState(x, "load(0, 0) from another place", () -> x.load(0, 0));
        Check.outside(x, "load(-1, 0)", () -> x.load(-1, 0));
        Check.outside(x, "load(1, 0)", () -> x.load(1, 0));
        Check.outside(x, "load(0, -1)", () -> x.load(0, -1));
        Check.outside(x, "load(0, 1)", () -> x.load(0, 1));
        Check.outside(x, "load(MAX, MIN)", () -> x.load(Integer.MAX_VALUE, Integer.MIN_VALUE));
    }
}
