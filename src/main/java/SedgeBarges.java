/**
 * Sellers of sedge for thatch, by barge: beds are cut along a waterway, bundles are tied or rot,
 * and barges carry them to three landings.
 */
public final class SedgeBarges {
    private static final int NONE = -1;

    private static final int LAST_PLACE = 30;
    private static final int DAYS_OF_YEAR = 100;
    private static final int MOST_DAYS = 200;

    private static final int MOST_BEDS = 8;
    private static final int MOST_SIZE = 9;
    private static final int FIRST_AGE = 3;
    private static final int OLDEST = 9;
    private static final int WHOLE = 100;
    private static final int[] GROWTH = {0, 1, 2, 4, 6, 6, 5, 4, 3, 2};

    private static final int LEFT_TOO_LONG = 6;
    private static final int LESS_WHEN_LEFT = 6;
    private static final int MORE_WHEN_CUT = 2;
    private static final int CREEP_PLACES = 4;
    private static final int CREEP_GAP = 30;
    private static final int LESS_BY_CREEP = 3;

    private static final int FIRST_TIES = 100;
    private static final int FIRST_COINS = 20;
    private static final int MOST_TIES_BOUGHT = 500;

    private static final int MOST_BARGES = 3;
    private static final int MOST_ABOARD = 150;
    private static final int PLACES_OF_DAY = 5;

    private static final int LANDINGS = 3;
    private static final int[] LANDING_PLACE = {2, 15, 28};
    private static final int[] LANDING_WORTH = {12, 9, 14};
    private static final int STORE_OF_COIN = 25;

    private static final int BED_FIGURES = 10;
    private static final int BARGE_FIGURES = 6;
    private static final int LANDING_FIGURES = 4;
    private static final int COUNT_FIGURES = 11;
    private static final long DIGEST_START = 1277;

    private final Waterway now;
    // Every look ahead is taken on this one copy, so that no call has to make objects.
    private final Waterway ahead;

    public SedgeBarges() {
        now = new Waterway();
        ahead = new Waterway();
    }

    // ---- beds

    public int bed(int place, int size, int sedge)
            throws IndexOutOfBoundsException, IllegalArgumentException, IllegalStateException {
        needPlace(place);
        if (size < 1 || size > MOST_SIZE) {
            throw new IllegalArgumentException("size is not 1 to 9");
        }
        if (sedge < 0 || sedge > WHOLE) {
            throw new IllegalArgumentException("sedge is not 0 to 100");
        }
        if (now.beds.areFull()) {
            throw new IllegalStateException("there are 8 beds");
        }
        return now.beds.add(place, size, sedge);
    }

    public int cut(int bed) throws IndexOutOfBoundsException, IllegalStateException {
        needBed(bed);
        if (now.beds.age[bed] == 0) {
            throw new IllegalStateException("the age of the bed is 0");
        }
        return now.beds.cutDown(bed);
    }

    public int tie(int bed) throws IndexOutOfBoundsException {
        needBed(bed);
        int tied = now.beds.tieUp(bed, now.ties);
        now.ties -= tied;
        return tied;
    }

    public int buy(int ties) throws IllegalArgumentException, IllegalStateException {
        if (ties < 1 || ties > MOST_TIES_BOUGHT) {
            throw new IllegalArgumentException("ties is not 1 to 500");
        }
        int price = tenthRoundedUp(ties);
        if (price > now.coins) {
            throw new IllegalStateException("there are not so many coins");
        }
        now.coins -= price;
        now.ties += ties;
        return now.ties;
    }

    public int about(int bed, int what) throws IndexOutOfBoundsException {
        needBed(bed);
        needFigure(what, BED_FIGURES);
        return now.beds.tell(bed, what);
    }

    public int best(int bed) throws IndexOutOfBoundsException {
        needBed(bed);
        ahead.beds.copyFrom(now.beds);
        int years = 0;
        int most = ahead.beds.sedgeGiven(bed);
        for (int year = 1; year <= OLDEST; year++) {
            ahead.beds.endYear();
            int given = ahead.beds.sedgeGiven(bed);
            if (given > most) {
                most = given;
                years = year;
            }
        }
        return years;
    }

    // ---- barges

    public int barge(int place) throws IndexOutOfBoundsException, IllegalStateException {
        needPlace(place);
        if (now.barges.areFull()) {
            throw new IllegalStateException("there are 3 barges");
        }
        return now.barges.add(place);
    }

    public int sail(int barge, int place) throws IndexOutOfBoundsException {
        needBarge(barge);
        needPlace(place);
        return now.barges.send(barge, place);
    }

    public int load(int barge, int bed) throws IndexOutOfBoundsException, IllegalStateException {
        needBarge(barge);
        needBed(bed);
        if (now.barges.place[barge] != now.beds.place[bed]) {
            throw new IllegalStateException("the barge is not at the place of the bed");
        }
        return now.takeAboard(barge, bed);
    }

    public int sell(int barge) throws IndexOutOfBoundsException, IllegalStateException {
        needBarge(barge);
        int landing = landingAt(now.barges.place[barge]);
        if (landing == NONE) {
            throw new IllegalStateException("the barge is at no landing");
        }
        return now.sellAll(barge, landing);
    }

    public int told(int barge, int what) throws IndexOutOfBoundsException {
        needBarge(barge);
        needFigure(what, BARGE_FIGURES);
        return now.barges.tell(barge, what);
    }

    public int landing(int landing, int what) throws IndexOutOfBoundsException {
        needLanding(landing);
        needFigure(what, LANDING_FIGURES);
        return now.landings.tell(landing, what);
    }

    public int would(int barge, int landing) throws IndexOutOfBoundsException {
        needBarge(barge);
        needLanding(landing);
        ahead.copyFrom(now);
        int days = ahead.barges.send(barge, LANDING_PLACE[landing]);
        ahead.passDays(days);
        return ahead.sellAll(barge, landing);
    }

    public int advise(int barge) throws IndexOutOfBoundsException {
        needBarge(barge);
        int advised = 0;
        int most = would(barge, 0);
        for (int landing = 1; landing < LANDINGS; landing++) {
            int coins = would(barge, landing);
            if (coins > most) {
                most = coins;
                advised = landing;
            }
        }
        return advised;
    }

    public int count(int what) throws IndexOutOfBoundsException {
        needFigure(what, COUNT_FIGURES);
        return now.tell(what);
    }

    // ---- days

    public int pass(int days) throws IllegalArgumentException {
        needDays(days);
        return now.passDays(days);
    }

    public int foresee(int days, int what) throws IllegalArgumentException, IndexOutOfBoundsException {
        needDays(days);
        if (what != 4 && what != 5 && what != 9 && what != 10) {
            throw new IndexOutOfBoundsException("what is none of 4, 5, 9 and 10");
        }
        ahead.copyFrom(now);
        ahead.passDays(days);
        return ahead.tell(what);
    }

    public double mean() {
        if (now.beds.number == 0) {
            return 0;
        }
        return (double) now.beds.sedgeOfAll() / now.beds.number;
    }

    public long digest() {
        long d = DIGEST_START;
        for (int what = 0; what < COUNT_FIGURES; what++) {
            d = d * 31 + now.tell(what);
        }
        for (int bed = 0; bed < now.beds.number; bed++) {
            for (int what = 0; what < BED_FIGURES; what++) {
                d = d * 31 + now.beds.tell(bed, what);
            }
        }
        for (int barge = 0; barge < now.barges.number; barge++) {
            for (int what = 0; what < BARGE_FIGURES; what++) {
                d = d * 31 + now.barges.tell(barge, what);
            }
        }
        for (int landing = 0; landing < LANDINGS; landing++) {
            for (int what = 0; what < LANDING_FIGURES; what++) {
                d = d * 31 + now.landings.tell(landing, what);
            }
        }
        return d;
    }

    // ---- what calls need

    private void needBed(int bed) {
        if (bed < 0 || bed >= now.beds.number) {
            throw new IndexOutOfBoundsException("there is no such bed");
        }
    }

    private void needBarge(int barge) {
        if (barge < 0 || barge >= now.barges.number) {
            throw new IndexOutOfBoundsException("there is no such barge");
        }
    }

    private static void needLanding(int landing) {
        if (landing < 0 || landing >= LANDINGS) {
            throw new IndexOutOfBoundsException("landing is not 0 to 2");
        }
    }

    private static void needPlace(int place) {
        if (place < 0 || place > LAST_PLACE) {
            throw new IndexOutOfBoundsException("place is not 0 to 30");
        }
    }

    private static void needFigure(int what, int figures) {
        if (what < 0 || what >= figures) {
            throw new IndexOutOfBoundsException("what tells nothing here");
        }
    }

    private static void needDays(int days) {
        if (days < 1 || days > MOST_DAYS) {
            throw new IllegalArgumentException("days is not 1 to 200");
        }
    }

    private static int tenthRoundedUp(int number) {
        return (number + 9) / 10;
    }

    private static int twentiethRoundedUp(int number) {
        return (number + 19) / 20;
    }

    private static int landingAt(int place) {
        for (int landing = 0; landing < LANDINGS; landing++) {
            if (LANDING_PLACE[landing] == place) {
                return landing;
            }
        }
        return NONE;
    }

    /** The beds, by their numbers, and what lies on their banks. */
    private static final class Beds {
        private int number;
        private final int[] place = new int[MOST_BEDS];
        private final int[] size = new int[MOST_BEDS];
        private final int[] age = new int[MOST_BEDS];
        private final int[] sedge = new int[MOST_BEDS];
        private final int[] untiedSedge = new int[MOST_BEDS];
        private final int[] untiedReed = new int[MOST_BEDS];
        private final int[] tiedSedge = new int[MOST_BEDS];
        private final int[] tiedReed = new int[MOST_BEDS];
        private final int[] change = new int[MOST_BEDS];

        boolean areFull() {
            return number >= MOST_BEDS;
        }

        int add(int newPlace, int newSize, int newSedge) {
            int bed = number;
            place[bed] = newPlace;
            size[bed] = newSize;
            age[bed] = FIRST_AGE;
            sedge[bed] = newSedge;
            number++;
            return bed;
        }

        void copyFrom(Beds other) {
            number = other.number;
            for (int bed = 0; bed < number; bed++) {
                place[bed] = other.place[bed];
                size[bed] = other.size[bed];
                age[bed] = other.age[bed];
                sedge[bed] = other.sedge[bed];
                untiedSedge[bed] = other.untiedSedge[bed];
                untiedReed[bed] = other.untiedReed[bed];
                tiedSedge[bed] = other.tiedSedge[bed];
                tiedReed[bed] = other.tiedReed[bed];
            }
        }

        int given(int bed) {
            int years = age[bed];
            int growth = years >= 0 && years < GROWTH.length ? GROWTH[years] : 0;
            return 3 * size[bed] * growth;
        }

        int sedgeGiven(int bed) {
            return given(bed) * sedge[bed] / WHOLE;
        }

        int cutDown(int bed) {
            int bundles = given(bed);
            int ofSedge = sedgeGiven(bed);
            untiedSedge[bed] += ofSedge;
            untiedReed[bed] += bundles - ofSedge;
            age[bed] = 0;
            return bundles;
        }

        int tieUp(int bed, int ties) {
            int ofSedge = Math.min(untiedSedge[bed], ties);
            int ofReed = Math.min(untiedReed[bed], ties - ofSedge);
            untiedSedge[bed] -= ofSedge;
            untiedReed[bed] -= ofReed;
            tiedSedge[bed] += ofSedge;
            tiedReed[bed] += ofReed;
            return ofSedge + ofReed;
        }

        int rot() {
            int rotted = 0;
            for (int bed = 0; bed < number; bed++) {
                int ofSedge = tenthRoundedUp(untiedSedge[bed]);
                int ofReed = tenthRoundedUp(untiedReed[bed]);
                untiedSedge[bed] -= ofSedge;
                untiedReed[bed] -= ofReed;
                rotted += ofSedge + ofReed;
            }
            return rotted;
        }

        void endYear() {
            // All changes are seen before one is made: each goes by what its neighbours had.
            for (int bed = 0; bed < number; bed++) {
                change[bed] = changeByAge(age[bed]) - (isCreptInto(bed) ? LESS_BY_CREEP : 0);
            }
            for (int bed = 0; bed < number; bed++) {
                sedge[bed] = Math.max(0, Math.min(WHOLE, sedge[bed] + change[bed]));
                age[bed] = Math.min(OLDEST, age[bed] + 1);
            }
        }

        private static int changeByAge(int years) {
            if (years >= LEFT_TOO_LONG) {
                return -LESS_WHEN_LEFT;
            }
            return years >= 1 ? MORE_WHEN_CUT : 0;
        }

        private boolean isCreptInto(int bed) {
            // The bed itself need not be left out: it never has less than it has.
            for (int other = 0; other < number; other++) {
                if (Math.abs(place[other] - place[bed]) <= CREEP_PLACES
                        && sedge[bed] - sedge[other] >= CREEP_GAP) {
                    return true;
                }
            }
            return false;
        }

        int tell(int bed, int what) {
            switch (what) {
                case 0: return place[bed];
                case 1: return size[bed];
                case 2: return age[bed];
                case 3: return sedge[bed];
                case 4: return given(bed);
                case 5: return sedgeGiven(bed);
                case 6: return untiedSedge[bed];
                case 7: return untiedReed[bed];
                case 8: return tiedSedge[bed];
                default: return tiedReed[bed];
            }
        }

        int sedgeOfAll() {
            int sum = 0;
            for (int bed = 0; bed < number; bed++) {
                sum += sedge[bed];
            }
            return sum;
        }

        int givenByAll() {
            int sum = 0;
            for (int bed = 0; bed < number; bed++) {
                sum += given(bed);
            }
            return sum;
        }

        int untiedOfAll() {
            int sum = 0;
            for (int bed = 0; bed < number; bed++) {
                sum += untiedSedge[bed] + untiedReed[bed];
            }
            return sum;
        }

        int tiedOfAll() {
            int sum = 0;
            for (int bed = 0; bed < number; bed++) {
                sum += tiedSedge[bed] + tiedReed[bed];
            }
            return sum;
        }
    }

    /** The barges, by their numbers, and what is aboard. */
    private static final class Barges {
        private int number;
        private final int[] place = new int[MOST_BARGES];
        private final int[] goal = new int[MOST_BARGES];
        private final int[] sedge = new int[MOST_BARGES];
        private final int[] reed = new int[MOST_BARGES];
        private final int[] brought = new int[MOST_BARGES];

        boolean areFull() {
            return number >= MOST_BARGES;
        }

        int add(int newPlace) {
            int barge = number;
            place[barge] = newPlace;
            goal[barge] = NONE;
            number++;
            return barge;
        }

        void copyFrom(Barges other) {
            number = other.number;
            for (int barge = 0; barge < number; barge++) {
                place[barge] = other.place[barge];
                goal[barge] = other.goal[barge];
                sedge[barge] = other.sedge[barge];
                reed[barge] = other.reed[barge];
                brought[barge] = other.brought[barge];
            }
        }

        int send(int barge, int newGoal) {
            int way = Math.abs(newGoal - place[barge]);
            goal[barge] = way == 0 ? NONE : newGoal;
            return (way + PLACES_OF_DAY - 1) / PLACES_OF_DAY;
        }

        void sailOn() {
            for (int barge = 0; barge < number; barge++) {
                if (goal[barge] != NONE) {
                    int way = goal[barge] - place[barge];
                    place[barge] += Math.max(-PLACES_OF_DAY, Math.min(PLACES_OF_DAY, way));
                    if (place[barge] == goal[barge]) {
                        goal[barge] = NONE;
                    }
                }
            }
        }

        int aboard(int barge) {
            return sedge[barge] + reed[barge];
        }

        int tell(int barge, int what) {
            switch (what) {
                case 0: return place[barge];
                case 1: return goal[barge];
                case 2: return sedge[barge];
                case 3: return reed[barge];
                case 4: return landingAt(place[barge]);
                default: return brought[barge];
            }
        }

        int aboardAll() {
            int sum = 0;
            for (int barge = 0; barge < number; barge++) {
                sum += aboard(barge);
            }
            return sum;
        }
    }

    /** The three landings, and what is in store there. */
    private static final class Landings {
        private final int[] store = new int[LANDINGS];

        void copyFrom(Landings other) {
            for (int landing = 0; landing < LANDINGS; landing++) {
                store[landing] = other.store[landing];
            }
        }

        int sedgePrice(int landing) {
            return Math.max(1, LANDING_WORTH[landing] - store[landing] / STORE_OF_COIN);
        }

        int reedPrice(int landing) {
            return Math.max(1, sedgePrice(landing) / 2);
        }

        void thatch() {
            for (int landing = 0; landing < LANDINGS; landing++) {
                store[landing] -= twentiethRoundedUp(store[landing]);
            }
        }

        int tell(int landing, int what) {
            switch (what) {
                case 0: return LANDING_PLACE[landing];
                case 1: return store[landing];
                case 2: return sedgePrice(landing);
                default: return reedPrice(landing);
            }
        }

        int storeOfAll() {
            int sum = 0;
            for (int landing = 0; landing < LANDINGS; landing++) {
                sum += store[landing];
            }
            return sum;
        }
    }

    /** All that changes from day to day. */
    private static final class Waterway {
        private int day;
        private int coins = FIRST_COINS;
        private int ties = FIRST_TIES;
        private int rotted;
        private final Beds beds = new Beds();
        private final Barges barges = new Barges();
        private final Landings landings = new Landings();

        void copyFrom(Waterway other) {
            day = other.day;
            coins = other.coins;
            ties = other.ties;
            rotted = other.rotted;
            beds.copyFrom(other.beds);
            barges.copyFrom(other.barges);
            landings.copyFrom(other.landings);
        }

        int takeAboard(int barge, int bed) {
            int room = MOST_ABOARD - barges.aboard(barge);
            int ofSedge = Math.min(beds.tiedSedge[bed], room);
            int ofReed = Math.min(beds.tiedReed[bed], room - ofSedge);
            beds.tiedSedge[bed] -= ofSedge;
            beds.tiedReed[bed] -= ofReed;
            barges.sedge[barge] += ofSedge;
            barges.reed[barge] += ofReed;
            return ofSedge + ofReed;
        }

        int sellAll(int barge, int landing) {
            int bundles = barges.aboard(barge);
            int earned = barges.sedge[barge] * landings.sedgePrice(landing)
                    + barges.reed[barge] * landings.reedPrice(landing);
            barges.sedge[barge] = 0;
            barges.reed[barge] = 0;
            barges.brought[barge] += earned;
            landings.store[landing] += bundles;
            coins += earned;
            return earned;
        }

        int passDays(int days) {
            int before = rotted;
            for (int gone = 0; gone < days; gone++) {
                passDay();
            }
            return rotted - before;
        }

        private void passDay() {
            barges.sailOn();
            rotted += beds.rot();
            landings.thatch();
            if (day % DAYS_OF_YEAR == DAYS_OF_YEAR - 1) {
                beds.endYear();
            }
            day++;
        }

        int tell(int what) {
            switch (what) {
                case 0: return day;
                case 1: return coins;
                case 2: return ties;
                case 3: return beds.number;
                case 4: return beds.givenByAll();
                case 5: return beds.untiedOfAll();
                case 6: return beds.tiedOfAll();
                case 7: return barges.number;
                case 8: return barges.aboardAll();
                case 9: return landings.storeOfAll();
                default: return rotted;
            }
        }
    }
}
