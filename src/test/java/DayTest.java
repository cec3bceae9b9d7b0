/** What a day does, by the steps 1 to 5 of the section 'Terms'. */
public final class DayTest {
    public static void main(String[] args) {
        Check.holds("one with a goal goes up to 5 places nearer", DayTest::upToFivePlaces);
        Check.holds("at its goal it has none any more", DayTest::atItsGoal);
        Check.holds("of untied bundles of sedge a tenth (rounded up) rots", DayTest::sedgeRots);
        Check.holds("of those of reed likewise", DayTest::reedRots);
        Check.holds("(of each bank and of each kind by itself, and only of what is untied)", DayTest::rotsByItself);
        Check.holds("of what is in store a twentieth (rounded up) goes to thatchers", DayTest::thatchers);
        Check.holds("On the last day of a year (the remainder by 100 is 99)", DayTest::lastDay);
        Check.holds("a bed with an age of 6 or more has 6 less, one with an age of 1 to 5 has 2 more", DayTest::byAge);
        Check.holds("one that is 4 places or fewer away", DayTest::placesAway);
        Check.holds("from another bed", DayTest::anotherBed);
        Check.holds("that has 30 less than it, or fewer still", DayTest::howMuchLess);
        Check.holds("has 3 less by that", DayTest::lessByThat);
        Check.holds("(once, however many there are)", DayTest::once);
        Check.holds("held at 0 to 100", DayTest::held);
        Check.holds("first it is seen of which beds .., by what is ahead of this", DayTest::byWhatIsAhead);
        Check.holds("Then each bed is a year older (9 at most).", DayTest::older);
        Check.holds("The day is 1 greater.", DayTest::dayIsGreater);
        Check.end();
    }

    private static SedgeBarges bargeOnWay(int from, int to) {
        SedgeBarges x = new SedgeBarges();
        x.barge(from);
        x.sail(0, to);
        return x;
    }

    private static void upToFivePlaces() {
        for (int from = 0; from <= 30; from++) {
            for (int to = 0; to <= 30; to++) {
                SedgeBarges x = bargeOnWay(from, to);
                x.pass(1);
                int due = to > from + 5 ? from + 5 : to < from - 5 ? from - 5 : to;
                Check.same("place on the way from " + from + " to " + to, x.told(0, 0), due);
            }
        }
        SedgeBarges x = bargeOnWay(0, 30);
        x.barge(30);
        x.sail(1, 12);
        x.barge(7);
        int[] first = {5, 10, 15, 20, 25, 30, 30, 30};
        int[] second = {25, 20, 15, 12, 12, 12, 12, 12};
        for (int day = 0; day < first.length; day++) {
            x.pass(1);
            Check.same("told(0, 0)", x.told(0, 0), first[day]);
            Check.same("told(1, 0)", x.told(1, 0), second[day]);
            Check.same("told(2, 0) without a goal", x.told(2, 0), 7);
        }
    }

    private static void atItsGoal() {
        int[] ways = {1, 4, 5, 6, 10, 11};
        int[] goalsBehindADay = {-1, -1, -1, 6, 10, 11};
        int[] goalsBehindTwo = {-1, -1, -1, -1, -1, 11};
        for (int i = 0; i < ways.length; i++) {
            SedgeBarges x = bargeOnWay(0, ways[i]);
            SedgeBarges y = bargeOnWay(30, 30 - ways[i]);
            x.pass(1);
            y.pass(1);
            Check.same("goal a day behind sail(0, " + ways[i] + ")", x.told(0, 1), goalsBehindADay[i]);
            Check.same("goal on the way back", y.told(0, 1), goalsBehindADay[i] < 0 ? -1 : 30 - ways[i]);
            x.pass(1);
            y.pass(1);
            Check.same("goal two days behind sail(0, " + ways[i] + ")", x.told(0, 1), goalsBehindTwo[i]);
            Check.same("goal on the way back", y.told(0, 1), goalsBehindTwo[i] < 0 ? -1 : 30 - ways[i]);
        }
        SedgeBarges x = bargeOnWay(5, 0);
        Check.bargeIs(x, 0, 5, 0);
        x.pass(1);
        Check.bargeIs(x, 0, 0, -1);
    }

    /** 108 bundles, of which so many in a hundred are sedge, lie untied. */
    private static SedgeBarges untied(int sedge) {
        SedgeBarges x = new SedgeBarges();
        x.bed(9, 9, sedge);
        x.cut(0);
        return x;
    }

    /** What is left behind days, from 100 on: of 100, 90, 80 and 10 just a tenth goes, of 81 and 11 one more. */
    private static final int[] UNTIED = {100, 90, 81, 72, 64, 57, 51, 45, 40, 36, 32, 28, 25, 22, 19, 17, 15, 13, 11, 9,
        8, 7, 6, 5, 4, 3, 2, 1, 0, 0};

    private static void sedgeRots() {
        SedgeBarges x = untied(93);
        Check.same("about(0, 6)", x.about(0, 6), 100);
        for (int day = 1; day < UNTIED.length; day++) {
            x.pass(1);
            Check.same("about(0, 6) behind " + day + " days", x.about(0, 6), UNTIED[day]);
        }
        rotsOnce(0, 0);
        rotsOnce(1, 1);
        rotsOnce(9, 1);
        rotsOnce(10, 1);
        rotsOnce(11, 2);
        rotsOnce(19, 2);
        rotsOnce(20, 2);
        rotsOnce(21, 3);
    }

    /** A bed of the size 3 gives 36 bundles, and a hundredth is less than one of them. */
    private static void rotsOnce(int number, int due) {
        int part = (100 * number + 35) / 36;
        SedgeBarges x = new SedgeBarges();
        x.bed(9, 3, part);
        x.cut(0);
        Check.same("about(0, 6)", x.about(0, 6), number);
        x.pass(1);
        Check.same("about(0, 6) a day behind " + number, x.about(0, 6), number - due);
    }

    private static void reedRots() {
        SedgeBarges x = untied(8);
        Check.same("about(0, 7)", x.about(0, 7), 100);
        for (int day = 1; day < UNTIED.length; day++) {
            x.pass(1);
            Check.same("about(0, 7) behind " + day + " days", x.about(0, 7), UNTIED[day]);
        }
        reedRotsOnce(0, 0);
        reedRotsOnce(1, 1);
        reedRotsOnce(9, 1);
        reedRotsOnce(10, 1);
        reedRotsOnce(11, 2);
        reedRotsOnce(20, 2);
        reedRotsOnce(21, 3);
    }

    private static void reedRotsOnce(int number, int due) {
        int part = (100 * (36 - number) + 35) / 36;
        SedgeBarges x = new SedgeBarges();
        x.bed(9, 3, part);
        x.cut(0);
        Check.same("about(0, 7)", x.about(0, 7), number);
        x.pass(1);
        Check.same("about(0, 7) a day behind " + number, x.about(0, 7), number - due);
    }

    private static void rotsByItself() {
        SedgeBarges x = new SedgeBarges();
        for (int bed = 0; bed < 8; bed++) {
            x.bed(9, 1, 50);
            x.cut(bed);
        }
        // Of 6 and 6 it is 1 and 1, of each bank.
        Check.same("pass(1) with 96 in lots of 6", x.pass(1), 16);
        for (int bed = 0; bed < 8; bed++) {
            Check.bedIs(x, bed, 9, 1, 0, 50, 0, 0, 5, 5, 0, 0);
        }
        SedgeBarges y = Scenes.withStore(1, 50);
        y.pass(100);
        Check.bargeIs(y, 0, 15, -1, 6, 6);
        Check.bedIs(y, 0, 20, 9, 1, 100, 27, 27, 0, 0, 108, 0);
    }

    private static void thatchers() {
        int[] store = {100, 95, 90, 85, 80, 76, 72, 68, 64, 60, 57, 54, 51, 48, 45, 42, 39, 37, 35, 33, 31, 29, 27, 25, 23,
            21, 19, 18, 17, 16, 15, 14, 13, 12, 11, 10, 9, 8, 7, 6, 5, 4, 3, 2, 1, 0, 0};
        for (int landing = 0; landing < 3; landing++) {
            SedgeBarges x = Scenes.withStore(landing, 100);
            for (int day = 1; day < store.length; day++) {
                x.pass(1);
                Check.same("landing(" + landing + ", 1) behind " + day + " days", x.landing(landing, 1), store[day]);
            }
        }
        int[] lots = {0, 1, 19, 20, 21, 39, 40, 41, 60, 61, 600, 601};
        int[] taken = {0, 1, 1, 1, 2, 2, 2, 3, 3, 4, 30, 31};
        for (int i = 0; i < lots.length; i++) {
            SedgeBarges x = Scenes.withStore(2, lots[i]);
            x.pass(1);
            Check.same("landing(2, 1) a day behind " + lots[i], x.landing(2, 1), lots[i] - taken[i]);
        }
        // Each landing by itself: 10 at each would be 30 in all.
        SedgeBarges x = Scenes.full();
        x.pass(1);
        Check.same("landing(0, 1) of 68", x.landing(0, 1), 64);
        Check.same("landing(1, 1) of 64", x.landing(1, 1), 60);
        Check.same("landing(2, 1) of 20", x.landing(2, 1), 19);
    }

    private static SedgeBarges beds(int... placeAndSedge) {
        SedgeBarges x = new SedgeBarges();
        for (int i = 0; i < placeAndSedge.length; i += 2) {
            x.bed(placeAndSedge[i], 1, placeAndSedge[i + 1]);
        }
        return x;
    }

    private static void sedgeIs(SedgeBarges x, int... due) {
        for (int bed = 0; bed < due.length; bed++) {
            Check.same("about(" + bed + ", 3)", x.about(bed, 3), due[bed]);
        }
    }

    private static void lastDay() {
        SedgeBarges x = beds(9, 50);
        x.pass(98);
        Check.bedIs(x, 0, 9, 1, 3, 50);
        x.pass(1);
        Check.bedIs(x, 0, 9, 1, 3, 50);
        x.pass(1);
        Check.bedIs(x, 0, 9, 1, 4, 52);
        x.pass(1);
        Check.bedIs(x, 0, 9, 1, 4, 52);
        x.pass(98);
        Check.same("count(0)", x.count(0), 199);
        Check.bedIs(x, 0, 9, 1, 4, 52);
        x.pass(1);
        Check.bedIs(x, 0, 9, 1, 5, 54);
        SedgeBarges y = beds(9, 50);
        y.pass(99);
        y.pass(200);
        Check.bedIs(y, 0, 9, 1, 5, 54);
        y.pass(1);
        Check.bedIs(y, 0, 9, 1, 6, 56);
        // It is the year's end, not a hundred days of its own, that a bed ages by.
        SedgeBarges z = new SedgeBarges();
        z.pass(99);
        z.bed(9, 1, 50);
        z.pass(1);
        Check.bedIs(z, 0, 9, 1, 4, 52);
    }

    private static void byAge() {
        SedgeBarges x = beds(9, 50);
        x.cut(0);
        int[] sedge = {50, 50, 52, 54, 56, 58, 60, 54, 48, 42, 36, 30};
        for (int year = 0; year < sedge.length; year++) {
            Check.bedIs(x, 0, 9, 1, Math.min(9, year), sedge[year]);
            x.pass(100);
        }
    }

    private static SedgeBarges behindAYear(int... placeAndSedge) {
        SedgeBarges x = beds(placeAndSedge);
        x.pass(100);
        return x;
    }

    private static void placesAway() {
        for (int away = 0; away <= 10; away++) {
            int due = away <= 4 ? 59 : 62;
            sedgeIs(behindAYear(10, 60, 10 + away, 0), due, 2);
            sedgeIs(behindAYear(10, 60, 10 - away, 0), due, 2);
            sedgeIs(behindAYear(10 + away, 0, 10, 60), 2, due);
            sedgeIs(behindAYear(10 - away, 0, 10, 60), 2, due);
        }
        sedgeIs(behindAYear(30, 60, 26, 0), 59, 2);
        sedgeIs(behindAYear(0, 60, 4, 0), 59, 2);
        sedgeIs(behindAYear(0, 60, 30, 0), 62, 2);
    }

    private static void anotherBed() {
        sedgeIs(behindAYear(9, 60), 62);
        sedgeIs(behindAYear(9, 60, 9, 60), 62, 62);
        sedgeIs(behindAYear(9, 60, 9, 30), 59, 32);
        // The first and the last of eight, both ways.
        sedgeIs(behindAYear(0, 60, 30, 50, 30, 50, 30, 50, 30, 50, 30, 50, 30, 50, 0, 0), 59, 52, 52, 52, 52, 52, 52, 2);
        sedgeIs(behindAYear(0, 0, 30, 50, 30, 50, 30, 50, 30, 50, 30, 50, 30, 50, 0, 60), 2, 52, 52, 52, 52, 52, 52, 59);
    }

    private static void howMuchLess() {
        sedgeIs(behindAYear(9, 60, 10, 31), 62, 33);
        sedgeIs(behindAYear(9, 60, 10, 30), 59, 32);
        sedgeIs(behindAYear(9, 60, 10, 29), 59, 31);
        sedgeIs(behindAYear(9, 30, 10, 0), 29, 2);
        sedgeIs(behindAYear(9, 29, 10, 0), 31, 2);
        sedgeIs(behindAYear(9, 100, 10, 0), 99, 2);
        // A bed with more than it does it nothing.
        sedgeIs(behindAYear(9, 0, 10, 100), 2, 99);
    }

    private static void lessByThat() {
        // At the age of 0 it has 3 less by that alone, and at 6 or more 9 less in all.
        SedgeBarges young = beds(9, 60, 9, 0);
        young.cut(0);
        young.pass(100);
        sedgeIs(young, 57, 2);
        SedgeBarges old = beds(9, 80, 30, 0);
        old.pass(200);
        old.pass(100);
        Check.bedIs(old, 0, 9, 1, 6, 86);
        old.bed(9, 1, 56);
        old.pass(100);
        sedgeIs(old, 77, 0, 58);
    }

    private static void once() {
        sedgeIs(behindAYear(9, 60, 9, 0, 10, 0), 59, 2, 2);
        sedgeIs(behindAYear(9, 60, 9, 0, 10, 29, 11, 1, 12, 2, 13, 3, 8, 4, 7, 5), 59, 2, 31, 3, 4, 5, 6, 7);
        sedgeIs(behindAYear(9, 90, 9, 60, 9, 30, 9, 0), 89, 59, 29, 2);
    }

    private static void held() {
        sedgeIs(behindAYear(9, 97), 99);
        sedgeIs(behindAYear(9, 98), 100);
        sedgeIs(behindAYear(9, 99), 100);
        sedgeIs(behindAYear(9, 100), 100);
        // 100 + 2 - 3 is held only behind both, and 99 + 2 - 3 likewise.
        sedgeIs(behindAYear(9, 100, 9, 70), 99, 72);
        sedgeIs(behindAYear(9, 99, 9, 69), 98, 71);
        // Behind three years it is 6 more at the age of 6, and then 6 less.
        int[] sedge = {0, 1, 94, 95};
        int[] due = {0, 1, 94, 94};
        for (int i = 0; i < sedge.length; i++) {
            SedgeBarges x = beds(9, sedge[i]);
            x.pass(200);
            x.pass(200);
            Check.bedIs(x, 0, 9, 1, 7, due[i]);
        }
        int[] little = {0, 5, 6, 7};
        int[] left = {0, 0, 0, 1};
        for (int i = 0; i < little.length; i++) {
            // 6 more at the age of 6, then 6, 6 and 6 less.
            SedgeBarges x = beds(9, little[i] + 6);
            x.pass(200);
            x.pass(200);
            Check.bedIs(x, 0, 9, 1, 7, little[i] + 6);
            x.pass(100);
            Check.bedIs(x, 0, 9, 1, 8, little[i]);
            x.pass(100);
            Check.bedIs(x, 0, 9, 1, 9, left[i]);
            x.pass(100);
            Check.bedIs(x, 0, 9, 1, 9, 0);
        }
    }

    private static void byWhatIsAhead() {
        // 60 - 30 is 30, though the second one comes to 59, and the third one's 89 would be no 30 more.
        SedgeBarges x = beds(10, 30, 10, 60, 10, 90);
        x.cut(0);
        x.pass(100);
        sedgeIs(x, 30, 59, 89);
        // 61 - 30 is 31, and would be 29 with the 32 that the first bed comes to.
        SedgeBarges y = beds(10, 30, 10, 61);
        y.cut(1);
        y.pass(100);
        sedgeIs(y, 32, 58);
        SedgeBarges z = beds(10, 61, 10, 30);
        z.cut(0);
        z.pass(100);
        sedgeIs(z, 58, 32);
        // 60 - 31 is 29, and would be 31 with the 62 that the first bed comes to.
        sedgeIs(behindAYear(10, 60, 10, 31), 62, 33);
        // 60 - 31 is 29, and would be 35 with the 25 that the first bed comes to at the age of 6.
        SedgeBarges old = beds(10, 25);
        old.pass(200);
        old.pass(100);
        old.bed(10, 1, 60);
        sedgeIs(old, 31, 60);
        old.pass(100);
        sedgeIs(old, 25, 62);
    }

    private static void older() {
        SedgeBarges x = beds(9, 50, 20, 50, 30, 50);
        x.cut(1);
        int[] first = {3, 4, 5, 6, 7, 8, 9, 9, 9, 9, 9};
        int[] second = {0, 1, 2, 3, 4, 5, 6, 7, 8, 9, 9};
        for (int year = 0; year < first.length; year++) {
            Check.same("about(0, 2) behind " + year + " years", x.about(0, 2), first[year]);
            Check.same("about(1, 2) behind " + year + " years", x.about(1, 2), second[year]);
            Check.same("about(2, 2) behind " + year + " years", x.about(2, 2), first[year]);
            x.pass(100);
        }
        // What it has more goes by its age ahead of that: at 5 it is 2 more, and it is 6 then.
        SedgeBarges y = beds(9, 50);
        y.pass(200);
        Check.bedIs(y, 0, 9, 1, 5, 54);
        y.pass(100);
        Check.bedIs(y, 0, 9, 1, 6, 56);
        y.pass(100);
        Check.bedIs(y, 0, 9, 1, 7, 50);
    }

    private static void dayIsGreater() {
        SedgeBarges x = Scenes.full();
        for (int day = 106; day <= 310; day++) {
            x.pass(1);
            Check.same("count(0)", x.count(0), day);
        }
    }
}
