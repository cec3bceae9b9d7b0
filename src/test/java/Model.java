import java.util.ArrayList;
import java.util.List;

/** The document once more, written as plainly as can be and apart from the program, to compare with. */
final class Model {
    static final class Bed {
        int place;
        int size;
        int sedge;
        int age = 3;
        int looseSedge;
        int looseReed;
        int tiedSedge;
        int tiedReed;

        Bed copy() {
            Bed bed = new Bed();
            bed.place = place;
            bed.size = size;
            bed.sedge = sedge;
            bed.age = age;
            bed.looseSedge = looseSedge;
            bed.looseReed = looseReed;
            bed.tiedSedge = tiedSedge;
            bed.tiedReed = tiedReed;
            return bed;
        }

        int gives() {
            return 3 * size * List.of(0, 1, 2, 4, 6, 6, 5, 4, 3, 2).get(age);
        }

        int givesSedge() {
            return (int) Math.floor(gives() * sedge / 100.0 + 1e-9);
        }
    }

    static final class Barge {
        int place;
        Integer goal;
        int sedge;
        int reed;
        int brought;
    }

    private static final List<Integer> PLACES = List.of(2, 15, 28);
    private static final List<Integer> WORTHS = List.of(12, 9, 14);

    private int day = 0;
    private int coins = 20;
    private int ties = 100;
    private int rotted = 0;
    private List<Bed> beds = new ArrayList<>();
    private List<Barge> barges = new ArrayList<>();
    private int[] store = new int[3];

    private static int roundedUp(int number, int part) {
        return number / part + (number % part == 0 ? 0 : 1);
    }

    private Bed theBed(int bed) {
        if (bed < 0 || bed > beds.size() - 1) {
            throw new IndexOutOfBoundsException();
        }
        return beds.get(bed);
    }

    private Barge theBarge(int barge) {
        if (barge < 0 || barge > barges.size() - 1) {
            throw new IndexOutOfBoundsException();
        }
        return barges.get(barge);
    }

    private static void within(int number, int least, int most) {
        if (number < least || number > most) {
            throw new IndexOutOfBoundsException();
        }
    }

    private static void days(int days) {
        if (days < 1 || days > 200) {
            throw new IllegalArgumentException();
        }
    }

    int bed(int place, int size, int sedge) {
        within(place, 0, 30);
        if (size < 1 || size > 9 || sedge < 0 || sedge > 100) {
            throw new IllegalArgumentException();
        }
        if (beds.size() == 8) {
            throw new IllegalStateException();
        }
        Bed bed = new Bed();
        bed.place = place;
        bed.size = size;
        bed.sedge = sedge;
        beds.add(bed);
        return beds.size() - 1;
    }

    int cut(int number) {
        Bed bed = theBed(number);
        if (bed.age == 0) {
            throw new IllegalStateException();
        }
        int all = bed.gives();
        int sedge = bed.givesSedge();
        bed.looseSedge += sedge;
        bed.looseReed += all - sedge;
        bed.age = 0;
        return all;
    }

    int tie(int number) {
        Bed bed = theBed(number);
        int tied = 0;
        while (ties > 0 && bed.looseSedge + bed.looseReed > 0) {
            if (bed.looseSedge > 0) {
                bed.looseSedge--;
                bed.tiedSedge++;
            } else {
                bed.looseReed--;
                bed.tiedReed++;
            }
            ties--;
            tied++;
        }
        return tied;
    }

    int buy(int more) {
        if (more < 1 || more > 500) {
            throw new IllegalArgumentException();
        }
        if (roundedUp(more, 10) > coins) {
            throw new IllegalStateException();
        }
        coins -= roundedUp(more, 10);
        ties += more;
        return ties;
    }

    int about(int number, int what) {
        Bed bed = theBed(number);
        within(what, 0, 9);
        return List.of(bed.place, bed.size, bed.age, bed.sedge, bed.gives(), bed.givesSedge(),
                bed.looseSedge, bed.looseReed, bed.tiedSedge, bed.tiedReed).get(what);
    }

    int best(int number) {
        theBed(number);
        List<Bed> saved = beds;
        int best = -1;
        int most = -1;
        for (int years = 0; years <= 9; years++) {
            beds = copies(saved);
            for (int year = 0; year < years; year++) {
                yearEnds();
            }
            if (beds.get(number).givesSedge() > most) {
                most = beds.get(number).givesSedge();
                best = years;
            }
        }
        beds = saved;
        return best;
    }

    private static List<Bed> copies(List<Bed> beds) {
        List<Bed> copies = new ArrayList<>();
        for (Bed bed : beds) {
            copies.add(bed.copy());
        }
        return copies;
    }

    int barge(int place) {
        within(place, 0, 30);
        if (barges.size() == 3) {
            throw new IllegalStateException();
        }
        Barge barge = new Barge();
        barge.place = place;
        barges.add(barge);
        return barges.size() - 1;
    }

    int sail(int number, int place) {
        Barge barge = theBarge(number);
        within(place, 0, 30);
        barge.goal = barge.place == place ? null : Integer.valueOf(place);
        return roundedUp(Math.abs(barge.place - place), 5);
    }

    int load(int number, int from) {
        Barge barge = theBarge(number);
        Bed bed = theBed(from);
        if (barge.place != bed.place) {
            throw new IllegalStateException();
        }
        int loaded = 0;
        while (barge.sedge + barge.reed < 150 && bed.tiedSedge + bed.tiedReed > 0) {
            if (bed.tiedSedge > 0) {
                bed.tiedSedge--;
                barge.sedge++;
            } else {
                bed.tiedReed--;
                barge.reed++;
            }
            loaded++;
        }
        return loaded;
    }

    private static int sedgePrice(int landing, int stored) {
        int price = WORTHS.get(landing) - stored / 25;
        return price < 1 ? 1 : price;
    }

    private static int reedPrice(int landing, int stored) {
        int price = sedgePrice(landing, stored) / 2;
        return price < 1 ? 1 : price;
    }

    int sell(int number) {
        Barge barge = theBarge(number);
        int landing = PLACES.indexOf(barge.place);
        if (landing < 0) {
            throw new IllegalStateException();
        }
        int brings = barge.sedge * sedgePrice(landing, store[landing]) + barge.reed * reedPrice(landing, store[landing]);
        store[landing] += barge.sedge + barge.reed;
        barge.sedge = 0;
        barge.reed = 0;
        barge.brought += brings;
        coins += brings;
        return brings;
    }

    int told(int number, int what) {
        Barge barge = theBarge(number);
        within(what, 0, 5);
        return List.of(barge.place, barge.goal == null ? -1 : barge.goal, barge.sedge, barge.reed,
                PLACES.indexOf(barge.place), barge.brought).get(what);
    }

    int landing(int landing, int what) {
        within(landing, 0, 2);
        within(what, 0, 3);
        int stored = store[landing];
        return List.of(PLACES.get(landing), stored, sedgePrice(landing, stored), reedPrice(landing, stored)).get(what);
    }

    int would(int number, int landing) {
        Barge barge = theBarge(number);
        within(landing, 0, 2);
        int stored = store[landing];
        for (int way = Math.abs(barge.place - PLACES.get(landing)); way > 0; way -= 5) {
            stored -= roundedUp(stored, 20);
        }
        return barge.sedge * sedgePrice(landing, stored) + barge.reed * reedPrice(landing, stored);
    }

    int advise(int number) {
        theBarge(number);
        int first = would(number, 0);
        int second = would(number, 1);
        int third = would(number, 2);
        int most = Math.max(first, Math.max(second, third));
        return first == most ? 0 : second == most ? 1 : 2;
    }

    int count(int what) {
        within(what, 0, 10);
        int given = beds.stream().mapToInt(Bed::gives).sum();
        int loose = beds.stream().mapToInt(bed -> bed.looseSedge + bed.looseReed).sum();
        int tied = beds.stream().mapToInt(bed -> bed.tiedSedge + bed.tiedReed).sum();
        int aboard = barges.stream().mapToInt(barge -> barge.sedge + barge.reed).sum();
        int stored = store[0] + store[1] + store[2];
        int[] all = {day, coins, ties, beds.size(), given, loose, tied, barges.size(), aboard, stored, rotted};
        return all[what];
    }

    int pass(int days) {
        days(days);
        int before = rotted;
        for (int i = 0; i < days; i++) {
            dayGoes();
        }
        return rotted - before;
    }

    private void dayGoes() {
        for (Barge barge : barges) {
            for (int step = 0; step < 5 && barge.goal != null; step++) {
                barge.place += barge.goal > barge.place ? 1 : -1;
                if (barge.goal == barge.place) {
                    barge.goal = null;
                }
            }
        }
        for (Bed bed : beds) {
            int sedge = roundedUp(bed.looseSedge, 10);
            int reed = roundedUp(bed.looseReed, 10);
            bed.looseSedge -= sedge;
            bed.looseReed -= reed;
            rotted += sedge + reed;
        }
        for (int landing = 0; landing < 3; landing++) {
            store[landing] -= roundedUp(store[landing], 20);
        }
        if (day % 100 == 99) {
            yearEnds();
        }
        day++;
    }

    private void yearEnds() {
        List<Bed> ahead = copies(beds);
        for (int i = 0; i < beds.size(); i++) {
            Bed was = ahead.get(i);
            int sedge = was.sedge;
            if (was.age > 5) {
                sedge -= 6;
            } else if (was.age > 0) {
                sedge += 2;
            }
            boolean creep = false;
            for (int j = 0; j < beds.size(); j++) {
                Bed other = ahead.get(j);
                creep |= i != j && Math.abs(other.place - was.place) < 5 && other.sedge + 30 <= was.sedge;
            }
            if (creep) {
                sedge -= 3;
            }
            beds.get(i).sedge = sedge < 0 ? 0 : sedge > 100 ? 100 : sedge;
            beds.get(i).age = was.age == 9 ? 9 : was.age + 1;
        }
    }

    int foresee(int days, int what) {
        days(days);
        if (!List.of(4, 5, 9, 10).contains(what)) {
            throw new IndexOutOfBoundsException();
        }
        Model later = new Model();
        later.day = day;
        later.rotted = rotted;
        later.beds = copies(beds);
        later.store = store.clone();
        later.pass(days);
        return later.count(what);
    }

    double mean() {
        return beds.stream().mapToInt(bed -> bed.sedge).average().orElse(0);
    }

    long digest() {
        long d = 1277;
        for (int what = 0; what <= 10; what++) {
            d = d * 31 + count(what);
        }
        for (int bed = 0; bed < beds.size(); bed++) {
            for (int what = 0; what <= 9; what++) {
                d = d * 31 + about(bed, what);
            }
        }
        for (int barge = 0; barge < barges.size(); barge++) {
            for (int what = 0; what <= 5; what++) {
                d = d * 31 + told(barge, what);
            }
        }
        for (int landing = 0; landing <= 2; landing++) {
            for (int what = 0; what <= 3; what++) {
                d = d * 31 + landing(landing, what);
            }
        }
        return d;
    }
}
