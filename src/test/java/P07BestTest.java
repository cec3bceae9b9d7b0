import java.util.function.Supplier;

/** Promise 7: best. */
public final class P07BestTest {
    public static void main(String[] args) {
        Check.holds("behind how many ends of years .. it gives the most sedge", P07BestTest::ordinary);
        Check.holds("behind how many ends of years, 0 ..", P07BestTest::now);
        Check.holds("if nothing is cut till then", P07BestTest::nothingIsCut);
        Check.holds("(sedge creeps as it does at the ends of years)", P07BestTest::creptInto);
        Check.holds("of several the fewest", P07BestTest::theFewest);
        Check.holds("Throws IndexOutOfBoundsException if there is no such bed", P07BestTest::noSuchBed);
        Check.end();
    }

    private static SedgeBarges bed(int size, int sedge) {
        SedgeBarges x = new SedgeBarges();
        x.bed(2, size, sedge);
        return x;
    }

    private static SedgeBarges cutBed(int size, int sedge) {
        SedgeBarges x = bed(size, sedge);
        x.cut(0);
        return x;
    }

    private static SedgeBarges older(SedgeBarges x, int years) {
        for (int year = 0; year < years; year++) {
            x.pass(100);
        }
        return x;
    }

    private static void ordinary() {
        // 97 now, 149 (of 162 with 92) behind one end, and behind two (94) 152.
        Check.tells(() -> bed(9, 90), "best(0)", 2, x -> x.best(0));
        // 0, 3 (of 162 with 2), 6 (of 162 with 4), 8 (of 135 with 6), and then 0.
        Check.tells(() -> bed(9, 0), "best(0) of reed alone", 3, x -> x.best(0));
        // 0, 0, 1 (of 54 with 2), 4 (of 108 with 4), 9 (of 162 with 6), 12 (8), 13 (of 135 with 10).
        Check.tells(() -> cutBed(9, 0), "best(0) of reed alone, when it is cut", 6, x -> x.best(0));
        // The last day of the year and the first one are no other than those between.
        Check.tells(() -> older(bed(9, 90), 1), "best(0) at the age of 4", 1, x -> x.best(0));
        Supplier<SedgeBarges> lastDay = () -> {
            SedgeBarges x = bed(9, 90);
            x.pass(99);
            return x;
        };
        Check.tells(lastDay, "best(0) on the last day of the year", 2, x -> x.best(0));
        Check.tells(Scenes::busy, "best(2)", 4, x -> x.best(2));
        Supplier<SedgeBarges> another = () -> {
            SedgeBarges x = older(bed(9, 90), 2);
            x.bed(20, 1, 0);
            x.bed(30, 9, 90);
            x.cut(0);
            return x;
        };
        Check.tells(another, "best(0) when it is cut", 4, x -> x.best(0));
        Check.tells(another, "best(1) of a small bed of reed", 0, x -> x.best(1));
        Check.tells(another, "best(2)", 2, x -> x.best(2));
    }

    private static void now() {
        for (int years = 2; years <= 8; years++) {
            int age = years;
            Check.tells(() -> older(bed(9, 90), age), "best(0) behind " + years + " years", 0, x -> x.best(0));
        }
        Supplier<SedgeBarges> besideCut = () -> {
            SedgeBarges x = new SedgeBarges();
            x.bed(2, 9, 90);
            x.bed(30, 9, 90);
            older(x, 2);
            x.cut(0);
            return x;
        };
        Check.tells(besideCut, "best(1) of an old bed beside one that is cut", 0, x -> x.best(1));
        // 72 now, and 66 of 135 behind one end.
        Check.tells(() -> older(bed(9, 40), 2), "best(0) at the age of 5", 0, x -> x.best(0));
    }

    private static void nothingIsCut() {
        SedgeBarges x = cutBed(9, 50);
        // At the ages of 4 and 5 it is 162 with 56 and 58.
        Check.same("best(0)", x.best(0), 5);
        x = older(x, 5);
        Check.bedIs(x, 0, 2, 9, 5, 58, 162, 93);
        Check.same("best(0)", x.best(0), 0);
    }

    private static SedgeBarges besideReed(int sedge, int reedPlace, int reedSedge) {
        SedgeBarges x = new SedgeBarges();
        x.bed(2, 9, sedge);
        x.bed(reedPlace, 1, reedSedge);
        return x;
    }

    private static void creptInto() {
        // 97 now, 144 (of 162 with 89) behind one end, and behind two (88) 142.
        Check.tells(() -> besideReed(90, 6, 0), "best(0) beside much reed", 1, x -> x.best(0));
        Check.tells(() -> besideReed(90, 7, 0), "best(0) 5 places from it", 2, x -> x.best(0));
        // 99 behind one end, and behind two 100, as by then the other has 72.
        Check.tells(() -> besideReed(100, 6, 70), "best(0) with 30 more", 2, x -> x.best(0));
        Check.tells(() -> besideReed(100, 6, 71), "best(0) with 29 more", 1, x -> x.best(0));
        // 99 behind one end, when the other has 70 or 69: it is 29 or 30 more.
        Check.tells(() -> besideReed(100, 6, 68), "best(0) with 32 more", 2, x -> x.best(0));
        Check.tells(() -> besideReed(100, 6, 67), "best(0) with 33 more", 1, x -> x.best(0));
        Supplier<SedgeBarges> eight = () -> {
            SedgeBarges x = new SedgeBarges();
            for (int bed = 0; bed < 8; bed++) {
                x.bed(4 * bed, 9, bed == 7 ? 0 : 90);
            }
            return x;
        };
        Check.tells(eight, "best(5) of 8 beds", 2, x -> x.best(5));
        Check.tells(eight, "best(6) beside the last of 8 beds", 1, x -> x.best(6));
    }

    private static void theFewest() {
        // At the ages of 4 and 5 it is 162 with 100, of which all is sedge.
        Check.tells(() -> bed(9, 100), "best(0) of sedge alone", 1, x -> x.best(0));
        Check.tells(() -> cutBed(9, 100), "best(0) of sedge alone, when it is cut", 4, x -> x.best(0));
        Check.tells(() -> older(bed(9, 100), 1), "best(0) of sedge alone at the age of 4", 0, x -> x.best(0));
        // From 3: 0 of 0, 0 of 3, 0 of 6, 0 of 12, 1 of 18 with 9, 1 of 18 with 11: the fourth.
        Check.tells(() -> cutBed(1, 3), "best(0) with little sedge", 4, x -> x.best(0));
        // 0 behind each end.
        Check.tells(() -> older(bed(1, 0), 8), "best(0) of an old bed of reed", 0, x -> x.best(0));
        Check.tells(() -> bed(1, 0), "best(0) of a small bed of reed", 0, x -> x.best(0));
    }

    private static void noSuchBed() {
        for (Supplier<SedgeBarges> scene : Scenes.ALL) {
            for (int bed : Scenes.wrongNumbers(scene.get().count(3), 8)) {
                Check.outside(scene, "best(" + bed + ")", x -> x.best(bed));
            }
        }
        Check.tells(Scenes::full, "best(7) of 8 beds", 2, x -> x.best(7));
    }
}
