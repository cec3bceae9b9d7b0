/** Promise 17: pass, and what a day does. */
public final class P17PassTest {
    public static void main(String[] args) {
        wrongInputs();
        rot();
        landings();
        yearsEnd();
        sedgeByAge();
        creep();
        heldAtBothEnds();
        byWhatIsAheadOfThis();
        Check.end();
    }

    private static void wrongInputs() {
        SedgeBarges x = new SedgeBarges();
        Check.wrongArgument(x, "pass(0)", () -> x.pass(0));
        Check.wrongArgument(x, "pass(-1)", () -> x.pass(-1));
        Check.wrongArgument(x, "pass(201)", () -> x.pass(201));
        Check.wrongArgument(x, "pass(MIN)", () -> x.pass(Integer.MIN_VALUE));
        Check.wrongArgument(x, "pass(MAX)", () -> x.pass(Integer.MAX_VALUE));
        Check.same("pass(1)", x.pass(1), 0);
        Check.same("count(0)", x.count(0), 1);
        Check.same("pass(200)", x.pass(200), 0);
        Check.same("count(0)", x.count(0), 201);
    }

    private static void rot() {
        SedgeBarges x = new SedgeBarges();
        x.bed(0, 9, 60);
        x.bed(30, 1, 50);
        x.cut(0);
        x.cut(1);
        // 64 of sedge, 44 of reed, and 6 of each: 7 and 5, and 1 and 1.
        Check.same("pass(1)", x.pass(1), 14);
        Check.bedIs(x, 0, 0, 9, 0, 60, 0, 0, 57, 39, 0, 0);
        Check.bedIs(x, 1, 30, 1, 0, 50, 0, 0, 5, 5, 0, 0);
        // 6 and 4, then 6 and 4 again, from 57 and 39, and 1 of each twice.
        Check.same("pass(2)", x.pass(2), 24);
        Check.bedIs(x, 0, 0, 9, 0, 60, 0, 0, 45, 31, 0, 0);
        Check.bedIs(x, 1, 30, 1, 0, 50, 0, 0, 3, 3, 0, 0);
        Check.same("count(10)", x.count(10), 38);
        x.tie(0);
        Check.same("pass(5), as what is tied stays", x.pass(5), 6);
        Check.bedIs(x, 0, 0, 9, 0, 60, 0, 0, 0, 0, 45, 31);
        Check.bedIs(x, 1, 30, 1, 0, 50, 0, 0, 0, 0, 0, 0);
        Check.same("count(10)", x.count(10), 44);
    }

    private static void landings() {
        SedgeBarges x = new SedgeBarges();
        x.bed(2, 5, 100);
        x.bed(28, 3, 100);
        x.barge(2);
        x.barge(28);
        for (int bed = 0; bed < 2; bed++) {
            x.cut(bed);
            x.tie(bed);
            x.load(bed, bed);
            x.sell(bed);
        }
        int[] first = {57, 54, 51, 48, 45, 42, 39, 37, 35, 33, 31};
        int[] third = {34, 32, 30, 28, 26, 24, 22, 20, 19, 18, 17};
        for (int day = 0; day < first.length; day++) {
            x.pass(1);
            Check.same("landing(0, 1)", x.landing(0, 1), first[day]);
            Check.same("landing(2, 1)", x.landing(2, 1), third[day]);
        }
        x.pass(16);
        Check.same("landing(2, 1)", x.landing(2, 1), 1);
        x.pass(1);
        Check.same("landing(2, 1)", x.landing(2, 1), 0);
        x.pass(1);
        Check.same("landing(2, 1)", x.landing(2, 1), 0);
    }

    private static void yearsEnd() {
        SedgeBarges x = new SedgeBarges();
        x.bed(0, 1, 50);
        x.pass(99);
        Check.bedIs(x, 0, 0, 1, 3, 50);
        x.pass(1);
        Check.bedIs(x, 0, 0, 1, 4, 52);
        x.pass(99);
        Check.bedIs(x, 0, 0, 1, 4, 52);
        x.pass(1);
        Check.bedIs(x, 0, 0, 1, 5, 54);
        x.pass(200);
        Check.bedIs(x, 0, 0, 1, 7, 50);
    }

    private static void sedgeByAge() {
        SedgeBarges x = new SedgeBarges();
        x.bed(0, 1, 50);
        x.cut(0);
        int[] sedge = {50, 52, 54, 56, 58, 60, 54, 48, 42, 36, 30};
        for (int year = 0; year < sedge.length; year++) {
            x.pass(100);
            Check.bedIs(x, 0, 0, 1, Math.min(9, year + 1), sedge[year]);
        }
    }

    private static void creep() {
        SedgeBarges x = new SedgeBarges();
        x.bed(10, 1, 60);
        x.bed(14, 1, 30);
        x.bed(0, 1, 60);
        x.bed(5, 1, 1);
        x.bed(20, 1, 60);
        x.bed(20, 1, 20);
        x.bed(19, 1, 10);
        x.pass(100);
        Check.same("about(0, 3), 4 places and 30 less", x.about(0, 3), 59);
        Check.same("about(1, 3)", x.about(1, 3), 32);
        Check.same("about(2, 3), 5 places away", x.about(2, 3), 62);
        Check.same("about(3, 3)", x.about(3, 3), 3);
        Check.same("about(4, 3), beside two, but 3 less once", x.about(4, 3), 59);
        Check.same("about(5, 3)", x.about(5, 3), 22);
        Check.same("about(6, 3)", x.about(6, 3), 12);

        SedgeBarges y = new SedgeBarges();
        y.bed(30, 1, 60);
        y.bed(26, 1, 31);
        y.bed(8, 1, 60);
        y.bed(4, 1, 0);
        y.bed(15, 1, 60);
        y.bed(20, 1, 0);
        y.pass(100);
        Check.same("about(0, 3), 29 less is too little", y.about(0, 3), 62);
        Check.same("about(2, 3), the other ahead of it", y.about(2, 3), 59);
        Check.same("about(4, 3), the other 5 places behind it", y.about(4, 3), 62);
    }

    private static void heldAtBothEnds() {
        SedgeBarges x = new SedgeBarges();
        x.bed(0, 1, 99);
        x.bed(30, 1, 0);
        x.bed(15, 1, 100);
        x.bed(15, 1, 70);
        x.pass(100);
        Check.same("about(0, 3)", x.about(0, 3), 100);
        Check.same("about(1, 3)", x.about(1, 3), 2);
        // 100 + 2 - 3: held only behind both.
        Check.same("about(2, 3)", x.about(2, 3), 99);
        x.pass(200);
        Check.same("about(1, 3)", x.about(1, 3), 6);
        x.pass(100);
        Check.same("about(1, 3)", x.about(1, 3), 0);
        x.pass(100);
        Check.same("about(1, 3)", x.about(1, 3), 0);
        Check.same("about(0, 3)", x.about(0, 3), 88);
    }

    private static void byWhatIsAheadOfThis() {
        SedgeBarges x = new SedgeBarges();
        x.bed(10, 1, 30);
        x.bed(10, 1, 60);
        x.bed(10, 1, 90);
        x.cut(0);
        // 60 - 30 is 30, though the first bed keeps its 30 and the second one comes to 59.
        x.pass(100);
        Check.same("about(0, 3)", x.about(0, 3), 30);
        Check.same("about(1, 3)", x.about(1, 3), 59);
        Check.same("about(2, 3)", x.about(2, 3), 89);
        SedgeBarges y = new SedgeBarges();
        y.bed(10, 1, 30);
        y.bed(10, 1, 61);
        y.cut(1);
        // 61 - 30 is 31, and would be 29 with the 32 that the first bed comes to.
        y.pass(100);
        Check.same("about(0, 3)", y.about(0, 3), 32);
        Check.same("about(1, 3) at the age of 0", y.about(1, 3), 58);
    }
}
