/** Promise 4: tie. */
public final class P04TieTest {
    public static void main(String[] args) {
        ordinary();
        asFarAsThereAreTies();
        wrongInputs();
        Check.end();
    }

    private static void ordinary() {
        SedgeBarges x = new SedgeBarges();
        x.bed(2, 2, 50);
        x.bed(2, 3, 25);
        Check.same("tie(0) of nothing", x.tie(0), 0);
        x.cut(0);
        x.cut(1);
        Check.same("tie(1)", x.tie(1), 36);
        Check.bedIs(x, 1, 2, 3, 0, 25, 0, 0, 0, 0, 9, 27);
        Check.bedIs(x, 0, 2, 2, 0, 50, 0, 0, 12, 12, 0, 0);
        Check.countsAre(x, 0, 20, 64, 2, 0, 24, 36);
        Check.same("tie(1) again", x.tie(1), 0);
        Check.same("tie(0)", x.tie(0), 24);
        Check.countsAre(x, 0, 20, 40, 2, 0, 0, 60);
    }

    private static void asFarAsThereAreTies() {
        SedgeBarges x = new SedgeBarges();
        x.bed(2, 9, 90);
        x.cut(0);
        Check.same("tie(0), sedge first", x.tie(0), 100);
        Check.bedIs(x, 0, 2, 9, 0, 90, 0, 0, 0, 8, 97, 3);
        Check.same("tie(0) without ties", x.tie(0), 0);
        x.buy(5);
        Check.same("tie(0) with 5", x.tie(0), 5);
        Check.bedIs(x, 0, 2, 9, 0, 90, 0, 0, 0, 3, 97, 8);
        Check.same("count(2)", x.count(2), 0);

        SedgeBarges y = new SedgeBarges();
        y.bed(2, 9, 100);
        y.cut(0);
        Check.same("tie(0), sedge alone", y.tie(0), 100);
        Check.bedIs(y, 0, 2, 9, 0, 100, 0, 0, 8, 0, 100, 0);
    }

    private static void wrongInputs() {
        SedgeBarges x = new SedgeBarges();
        Check.outside(x, "tie(0) without beds", () -> x.tie(0));
        x.bed(2, 1, 100);
        x.cut(0);
        Check.outside(x, "tie(-1)", () -> x.tie(-1));
        Check.outside(x, "tie(1)", () -> x.tie(1));
        Check.outside(x, "tie(MAX)", () -> x.tie(Integer.MAX_VALUE));
    }
}
