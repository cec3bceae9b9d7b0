/** Promise 2: bed. */
public final class P02BedTest {
    public static void main(String[] args) {
        ordinary();
        wrongInputs();
        eightAtMost();
        Check.end();
    }

    private static void ordinary() {
        SedgeBarges x = new SedgeBarges();
        Check.same("bed(0, 1, 0)", x.bed(0, 1, 0), 0);
        Check.same("bed(30, 9, 100)", x.bed(30, 9, 100), 1);
        Check.same("bed(7, 5, 33)", x.bed(7, 5, 33), 2);
        Check.bedIs(x, 0, 0, 1, 3, 0, 12, 0, 0, 0, 0, 0);
        Check.bedIs(x, 1, 30, 9, 3, 100, 108, 108, 0, 0, 0, 0);
        Check.bedIs(x, 2, 7, 5, 3, 33, 60, 19, 0, 0, 0, 0);
        Check.same("count(3)", x.count(3), 3);
        Check.same("count(1), as a bed costs nothing", x.count(1), 20);
        x.pass(100);
        Check.same("bed(1, 1, 1) a year later", x.bed(1, 1, 1), 3);
        Check.same("about(3, 2)", x.about(3, 2), 3);
    }

    private static void wrongInputs() {
        SedgeBarges x = new SedgeBarges();
        Check.outside(x, "bed(-1, 1, 0)", () -> x.bed(-1, 1, 0));
        Check.outside(x, "bed(31, 1, 0)", () -> x.bed(31, 1, 0));
        Check.outside(x, "bed(MIN, 1, 0)", () -> x.bed(Integer.MIN_VALUE, 1, 0));
        Check.outside(x, "bed(MAX, 1, 0)", () -> x.bed(Integer.MAX_VALUE, 1, 0));
        Check.outside(x, "bed(31, 0, 101)", () -> x.bed(31, 0, 101));
        Check.wrongArgument(x, "bed(0, 0, 0)", () -> x.bed(0, 0, 0));
        Check.wrongArgument(x, "bed(0, 10, 0)", () -> x.bed(0, 10, 0));
        Check.wrongArgument(x, "bed(0, 1, -1)", () -> x.bed(0, 1, -1));
        Check.wrongArgument(x, "bed(0, 1, 101)", () -> x.bed(0, 1, 101));
        Check.same("count(3)", x.count(3), 0);
        Check.same("bed(0, 1, 0)", x.bed(0, 1, 0), 0);
    }

    private static void eightAtMost() {
        SedgeBarges x = new SedgeBarges();
        for (int bed = 0; bed < 8; bed++) {
            Check.same("bed() by its number", x.bed(bed, 1, 0), bed);
        }
        Check.wrongState(x, "bed(0, 1, 0), the ninth", () -> x.bed(0, 1, 0));
        Check.outside(x, "bed(31, 1, 0), the ninth", () -> x.bed(31, 1, 0));
        Check.wrongArgument(x, "bed(0, 10, 0), the ninth", () -> x.bed(0, 10, 0));
        Check.wrongArgument(x, "bed(0, 1, 101), the ninth", () -> x.bed(0, 1, 101));
        Check.same("count(3)", x.count(3), 8);
    }
}
