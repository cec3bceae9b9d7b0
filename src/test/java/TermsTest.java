/** The section 'Terms' of the document, but for what a day does (DayTest) and what is refused (RefusedTest). */
public final class TermsTest {
    public static void main(String[] args) {
        Check.holds("Time is told in days, from 0; a year has 100.", TermsTest::year);
        Check.holds("It has places, 0 to 30.", TermsTest::places);
        Check.holds("0 at the place 2, where a bundle of sedge is worth 12 coins, 1 at the place 15, worth 9, and 2 at "
                + "the place 28, worth 14", TermsTest::landings);
        Check.holds("at each so many bundles are in store (0, at first)", TermsTest::storesAtFirst);
        Check.holds("There are at most 8, numbered from 0 in the order of their coming", TermsTest::eightBeds);
        Check.holds("has a size, 1 to 9", TermsTest::sizes);
        Check.holds("an age of 0 to 9 years (3, at first)", TermsTest::ages);
        Check.holds("and sedge of 0 to 100 in a hundred", TermsTest::sedge);
        Check.holds("On its bank lie bundles of sedge and of reed, tied or untied (none, at first).",
                TermsTest::banksAtFirst);
        Check.holds("Growth by age: 0, 1, 2, 4, 6, 6, 5, 4, 3 and 2 for 0 to 9 years.", TermsTest::growth);
        Check.holds("3 * size * growth bundles in all; of these sedge in a hundred (cut) are sedge, the others are reed",
                TermsTest::whatABedGives);
        Check.holds("There are 100, at first", TermsTest::tiesAtFirst);
        Check.holds("a tie is used up by each bundle that is tied", TermsTest::tiesUsedUp);
        Check.holds("There are at most 3, numbered likewise", TermsTest::threeBarges);
        Check.holds("has bundles of sedge and of reed aboard (none, at first), 150 at most", TermsTest::aboard);
        Check.holds("and a goal, a place, or none (at first)", TermsTest::goals);
        Check.holds("Coins. 20, at first.", TermsTest::coinsAtFirst);
        Check.holds("An object is used for at most 512 calls after it has been made", TermsTest::longUse);
        Check.end();
    }

    private static SedgeBarges bedAt(int place, int size, int sedge) {
        SedgeBarges x = new SedgeBarges();
        x.bed(place, size, sedge);
        return x;
    }

    private static SedgeBarges cutBed(int size, int sedge) {
        SedgeBarges x = bedAt(9, size, sedge);
        x.cut(0);
        return x;
    }

    private static void year() {
        Check.same("count(0) at first", new SedgeBarges().count(0), 0);
        SedgeBarges x = cutBed(1, 50);
        for (int day = 1; day <= 301; day++) {
            x.pass(1);
            if (day % 100 <= 1 || day % 100 >= 98) {
                Check.same("count(0)", x.count(0), day);
                Check.same("years behind " + day + " days", x.about(0, 2), day / 100);
            }
        }
    }

    private static void places() {
        for (int place = 0; place <= 30; place++) {
            SedgeBarges x = new SedgeBarges();
            x.bed(place, 1, 0);
            x.barge(place);
            x.barge(0);
            x.sail(1, place);
            Check.bedIs(x, 0, place);
            Check.bargeIs(x, 0, place);
            Check.bargeIs(x, 1, 0, place == 0 ? -1 : place);
        }
        for (int place : new int[] {-1, 31}) {
            Check.outside(Scenes::busy, "bed(" + place + ", 1, 0)", x -> x.bed(place, 1, 0));
            Check.outside(Scenes::busy, "barge(" + place + ")", x -> x.barge(place));
            Check.outside(Scenes::busy, "sail(0, " + place + ")", x -> x.sail(0, place));
        }
    }

    private static void landings() {
        SedgeBarges x = new SedgeBarges();
        Check.landingIs(x, 0, 2, 0, 12);
        Check.landingIs(x, 1, 15, 0, 9);
        Check.landingIs(x, 2, 28, 0, 14);
        int[] places = {1, 2, 3, 14, 15, 16, 27, 28, 29};
        int[] landings = {-1, 0, -1, -1, 1, -1, -1, 2, -1};
        for (int i = 0; i < places.length; i++) {
            SedgeBarges y = new SedgeBarges();
            y.barge(places[i]);
            Check.same("landing at the place " + places[i], y.told(0, 4), landings[i]);
        }
    }

    private static void storesAtFirst() {
        SedgeBarges x = new SedgeBarges();
        for (int landing = 0; landing < 3; landing++) {
            Check.same("landing(" + landing + ", 1)", x.landing(landing, 1), 0);
        }
        Check.same("count(9)", x.count(9), 0);
    }

    private static void eightBeds() {
        SedgeBarges x = new SedgeBarges();
        for (int bed = 0; bed < 8; bed++) {
            Check.same("bed() by its number", x.bed(30 - bed, 1 + bed, 10 * bed), bed);
        }
        for (int bed = 0; bed < 8; bed++) {
            Check.bedIs(x, bed, 30 - bed, 1 + bed, 3, 10 * bed);
        }
        Check.wrongState(Scenes::full, "bed(1, 1, 1), the ninth", y -> y.bed(1, 1, 1));
        Check.outside(Scenes::full, "about(8, 0)", y -> y.about(8, 0));
    }

    private static void sizes() {
        for (int size = 1; size <= 9; size++) {
            Check.bedIs(bedAt(9, size, 0), 0, 9, size, 3, 0, 12 * size);
        }
        for (int size : new int[] {0, 10}) {
            Check.wrongArgument(Scenes::busy, "bed(1, " + size + ", 1)", x -> x.bed(1, size, 1));
        }
    }

    private static void ages() {
        SedgeBarges x = bedAt(9, 1, 0);
        int[] due = {3, 4, 5, 6, 7, 8, 9, 9, 9};
        for (int years = 0; years < due.length; years++) {
            Check.same("about(0, 2) behind " + years + " years", x.about(0, 2), due[years]);
            x.pass(100);
        }
        x.cut(0);
        Check.same("about(0, 2) when it is cut", x.about(0, 2), 0);
    }

    private static void sedge() {
        for (int part = 0; part <= 100; part++) {
            Check.bedIs(bedAt(9, 1, part), 0, 9, 1, 3, part, 12);
        }
        for (int part : new int[] {-1, 101}) {
            Check.wrongArgument(Scenes::busy, "bed(1, 1, " + part + ")", x -> x.bed(1, 1, part));
        }
        // The rest is reed.
        Check.bedIs(cutBed(9, 0), 0, 9, 9, 0, 0, 0, 0, 0, 108);
        Check.bedIs(cutBed(9, 100), 0, 9, 9, 0, 100, 0, 0, 108, 0);
    }

    private static void banksAtFirst() {
        for (int years = 0; years < 3; years++) {
            SedgeBarges x = new SedgeBarges();
            if (years > 0) {
                x.pass(100 * years);
            }
            int bed = x.bed(9, 9, 50);
            Check.bedIs(x, bed, 9, 9, 3, 50, 108, 54, 0, 0, 0, 0);
        }
    }

    private static void growth() {
        int[] growth = {0, 1, 2, 4, 6, 6, 5, 4, 3, 2};
        SedgeBarges x = cutBed(5, 0);
        for (int age = 0; age <= 9; age++) {
            Check.same("about(0, 2)", x.about(0, 2), age);
            Check.same("about(0, 4) at the age of " + age, x.about(0, 4), 15 * growth[age]);
            x.pass(100);
        }
        Check.same("about(0, 4), a year more at the age of 9", x.about(0, 4), 30);
    }

    private static void whatABedGives() {
        // 12 bundles: 0.96, 1.08, 5.88, 6, 11.88 and 12 of sedge, 0 and 0.12.
        int[] parts = {8, 9, 49, 50, 99, 100, 0, 1};
        int[] ofSedge = {0, 1, 5, 6, 11, 12, 0, 0};
        for (int i = 0; i < parts.length; i++) {
            Check.bedIs(bedAt(9, 1, parts[i]), 0, 9, 1, 3, parts[i], 12, ofSedge[i]);
            Check.bedIs(cutBed(1, parts[i]), 0, 9, 1, 0, parts[i], 0, 0, ofSedge[i], 12 - ofSedge[i]);
        }
        for (int size = 1; size <= 9; size++) {
            for (int part = 0; part <= 100; part++) {
                int due = 12 * size * part / 100;
                Check.bedIs(bedAt(9, size, part), 0, 9, size, 3, part, 12 * size, due);
                Check.bedIs(cutBed(size, part), 0, 9, size, 0, part, 0, 0, due, 12 * size - due);
            }
        }
    }

    private static void tiesAtFirst() {
        Check.same("count(2)", new SedgeBarges().count(2), 100);
        SedgeBarges x = cutBed(9, 50);
        Check.same("tie(0) of 108", x.tie(0), 100);
        Check.same("tie(0) of 96", cutBed(8, 50).tie(0), 96);
    }

    private static void tiesUsedUp() {
        for (int size = 1; size <= 8; size++) {
            SedgeBarges x = cutBed(size, 50);
            x.tie(0);
            Check.same("count(2) when " + 12 * size + " are tied", x.count(2), 100 - 12 * size);
        }
        SedgeBarges x = cutBed(9, 50);
        x.tie(0);
        Check.same("count(2) when 100 of 108 are tied", x.count(2), 0);
        x.tie(0);
        Check.same("count(2) when none are left", x.count(2), 0);
    }

    private static void threeBarges() {
        SedgeBarges x = new SedgeBarges();
        for (int barge = 0; barge < 3; barge++) {
            Check.same("barge() by its number", x.barge(30 - barge), barge);
        }
        for (int barge = 0; barge < 3; barge++) {
            Check.bargeIs(x, barge, 30 - barge);
        }
        Check.wrongState(Scenes::full, "barge(1), the fourth", y -> y.barge(1));
        Check.outside(Scenes::full, "told(3, 0)", y -> y.told(3, 0));
    }

    private static void aboard() {
        SedgeBarges x = Scenes.withTies(2, 50, 192);
        x.bed(2, 7, 50);
        x.barge(2);
        Check.bargeIs(x, 0, 2, -1, 0, 0);
        x.cut(2);
        x.tie(1);
        x.tie(2);
        Check.same("load(0, 1)", x.load(0, 1), 108);
        Check.same("load(0, 2) of 84", x.load(0, 2), 42);
        Check.bargeIs(x, 0, 2, -1, 54 + 42, 54);
        Check.same("load(0, 2) of 42, with 150 aboard", x.load(0, 2), 0);
        Check.bargeIs(x, 0, 2, -1, 54 + 42, 54);
        Check.same("count(8)", x.count(8), 150);
    }

    private static void goals() {
        for (int place = 0; place <= 30; place++) {
            SedgeBarges x = new SedgeBarges();
            x.barge(place);
            Check.same("told(0, 1) at " + place, x.told(0, 1), -1);
            x.pass(1);
            Check.bargeIs(x, 0, place, -1);
        }
    }

    private static void coinsAtFirst() {
        Check.same("count(1)", new SedgeBarges().count(1), 20);
        Check.same("buy(200) for all coins", new SedgeBarges().buy(200), 300);
        Check.wrongState(Scenes::empty, "buy(201)", x -> x.buy(201));
    }

    /** The 512th call answers as the first ones do. */
    private static void longUse() {
        SedgeBarges x = new SedgeBarges();
        x.bed(9, 9, 100);
        x.cut(0);
        int rotted = x.pass(200);
        for (int call = 4; call <= 510; call++) {
            rotted += x.pass(200);
        }
        Check.same("the 511th call, count(0)", x.count(0), 508 * 200);
        Check.same("the 512th call, count(10)", x.count(10), rotted);
    }
}
