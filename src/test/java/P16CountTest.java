import java.util.function.Supplier;

/** Promise 16: count. */
public final class P16CountTest {
    public static void main(String[] args) {
        Check.holds("what: 0 the day, 1 coins, 2 ties, 3 beds, .. 7 barges, ..", P16CountTest::tellsEach);
        Check.holds("4 bundles that beds would give, if all were cut now", P16CountTest::ifAllWereCut);
        Check.holds("5 untied bundles, 6 tied ones on banks, .. 8 bundles aboard, 9 bundles in store at landings",
                P16CountTest::bundles);
        Check.holds("10 bundles that rotted in all", P16CountTest::rotted);
        Check.holds("(the last bed, barge and landing are counted too)", P16CountTest::lastOnes);
        Check.holds("Throws IndexOutOfBoundsException if what is not 0 to 10", P16CountTest::noSuchFigure);
        Check.end();
    }

    private static void tellsAll(Supplier<SedgeBarges> scene, int... due) {
        for (int what = 0; what < due.length; what++) {
            int asked = what;
            Check.tells(scene, "count(" + what + ")", due[what], x -> x.count(asked));
        }
    }

    private static void tellsEach() {
        tellsAll(Scenes::empty, 0, 20, 100, 0, 0, 0, 0, 0, 0, 0, 0);
        tellsAll(Scenes::poor, 0, 0, 0, 3, 0, 24, 300, 1, 0, 0, 0);
        SedgeBarges x = new SedgeBarges();
        for (int bed = 1; bed <= 8; bed++) {
            x.bed(0, 1, 0);
            Check.same("count(3)", x.count(3), bed);
        }
        for (int barge = 1; barge <= 3; barge++) {
            x.barge(0);
            Check.same("count(7)", x.count(7), barge);
        }
        x.pass(1);
        Check.same("count(0)", x.count(0), 1);
        x.pass(200);
        Check.same("count(0)", x.count(0), 201);
    }

    private static void ifAllWereCut() {
        SedgeBarges x = new SedgeBarges();
        x.bed(2, 2, 50);
        x.bed(15, 3, 100);
        x.bed(9, 9, 10);
        Check.same("count(4)", x.count(4), 24 + 36 + 108);
        x.cut(0);
        Check.same("count(4)", x.count(4), 36 + 108);
        x.cut(2);
        Check.same("count(4)", x.count(4), 36);
        x.cut(1);
        Check.same("count(4), all at the age of 0", x.count(4), 0);
        x.pass(100);
        Check.same("count(4)", x.count(4), 3 * (2 + 3 + 9));
    }

    private static void bundles() {
        SedgeBarges x = new SedgeBarges();
        x.bed(2, 2, 50);
        x.bed(15, 3, 100);
        x.bed(9, 9, 10);
        x.barge(2);
        x.barge(15);
        Check.countsAre(x, 0, 20, 100, 3, 168, 0, 0, 2, 0, 0, 0);
        x.cut(0);
        Check.countsAre(x, 0, 20, 100, 3, 144, 24, 0, 2, 0, 0, 0);
        x.tie(0);
        Check.countsAre(x, 0, 20, 76, 3, 144, 0, 24, 2, 0, 0, 0);
        x.cut(1);
        x.pass(1);
        // Of 36 of sedge 4 rot.
        Check.countsAre(x, 1, 20, 76, 3, 108, 32, 24, 2, 0, 0, 4);
        x.tie(1);
        Check.countsAre(x, 1, 20, 44, 3, 108, 0, 56, 2, 0, 0, 4);
        x.load(0, 0);
        x.load(1, 1);
        Check.countsAre(x, 1, 20, 44, 3, 108, 0, 0, 2, 56, 0, 4);
        x.sell(0);
        Check.countsAre(x, 1, 20 + 216, 44, 3, 108, 0, 0, 2, 32, 24, 4);
        x.sell(1);
        Check.countsAre(x, 1, 236 + 288, 44, 3, 108, 0, 0, 2, 0, 56, 4);
        x.buy(41);
        Check.countsAre(x, 1, 519, 85, 3, 108, 0, 0, 2, 0, 56, 4);
        x.cut(2);
        // 10 of sedge and 98 of reed: 1 and 10 rot, then 1 and 9; of 24 and 32 in store 2 each go, twice.
        x.pass(2);
        Check.countsAre(x, 3, 519, 85, 3, 0, 87, 0, 2, 0, 48, 25);
    }

    private static void rotted() {
        SedgeBarges x = Scenes.busy();
        int rotted = x.count(10);
        Check.same("count(10)", rotted, 14);
        for (int day = 0; day < 40; day++) {
            rotted += x.pass(1);
            Check.same("count(10) behind " + (day + 1) + " days", x.count(10), rotted);
        }
        Check.same("count(5), when all is rotten", x.count(5), 0);
        Check.same("count(10), with the 96 that lay untied", x.count(10), 14 + 96);
    }

    private static void lastOnes() {
        SedgeBarges x = new SedgeBarges();
        for (int bed = 0; bed < 7; bed++) {
            x.bed(0, 1, 50);
            x.cut(bed);
        }
        x.bed(28, 2, 50);
        x.barge(0);
        x.barge(0);
        x.barge(28);
        Check.same("count(4) of the eighth bed", x.count(4), 24);
        x.cut(7);
        Check.same("count(5) with the eighth bed", x.count(5), 7 * 12 + 24);
        x.tie(7);
        Check.same("count(6) of the eighth bed", x.count(6), 24);
        x.load(2, 7);
        Check.same("count(8) of the third barge", x.count(8), 24);
        x.sell(2);
        Check.same("count(9) of the third landing", x.count(9), 24);
        x.pass(1);
        Check.same("count(10) of 7 beds", x.count(10), 14);
    }

    private static void noSuchFigure() {
        for (Supplier<SedgeBarges> scene : Scenes.ALL) {
            for (int what : Scenes.wrongNumbers(11)) {
                Check.outside(scene, "count(" + what + ")", x -> x.count(what));
            }
        }
    }
}
