import java.util.function.Supplier;

/** Promise 17: pass. What a day does is tested by DayTest. */
public final class P17PassTest {
    public static void main(String[] args) {
        Check.holds("Lets days go by. days: how many", P17PassTest::days);
        Check.holds("Returns how many bundles rot in them.", P17PassTest::howManyRot);
        Check.holds("Throws IllegalArgumentException if days is not 1 to 200", P17PassTest::wrongDays);
        Check.end();
    }

    private static void days() {
        SedgeBarges x = new SedgeBarges();
        int[] days = {1, 2, 99, 100, 101, 199, 200};
        int day = 0;
        for (int number : days) {
            x.pass(number);
            day += number;
            Check.same("count(0) behind pass(" + number + ")", x.count(0), day);
        }
        for (int number : days) {
            SedgeBarges atOnce = Scenes.full();
            SedgeBarges singly = Scenes.full();
            int rotted = 0;
            for (int gone = 0; gone < number; gone++) {
                rotted += singly.pass(1);
            }
            Check.same("pass(" + number + ")", atOnce.pass(number), rotted);
            if (!Check.picture(atOnce).equals(Check.picture(singly))) {
                Check.tell("pass(" + number + ") is not so many days: " + Check.picture(atOnce));
            }
        }
    }

    private static void howManyRot() {
        Check.same("pass(200) without beds", new SedgeBarges().pass(200), 0);
        Check.same("pass(1) with nothing untied", Scenes.withTies(5, 50, 108).pass(1), 12);
        SedgeBarges x = new SedgeBarges();
        x.bed(0, 9, 60);
        x.bed(30, 1, 50);
        Check.same("pass(1) with nothing cut", x.pass(1), 0);
        x.cut(0);
        x.cut(1);
        // 64 of sedge, 44 of reed, and 6 of each: 7 and 5, and 1 and 1.
        Check.same("pass(1)", x.pass(1), 14);
        // 6 and 4 twice, from 57 and 39, and 1 of each twice.
        Check.same("pass(2)", x.pass(2), 24);
        x.tie(0);
        Check.same("pass(1), as what is tied stays", x.pass(1), 2);
        Check.same("pass(200)", x.pass(200), 4);
        Check.same("pass(200) when all is rotten", x.pass(200), 0);
        Check.same("count(10)", x.count(10), 44);
    }

    private static void wrongDays() {
        for (Supplier<SedgeBarges> scene : Scenes.ALL) {
            for (int days : Scenes.wrongNumbers(0, 201)) {
                Check.wrongArgument(scene, "pass(" + days + ")", x -> x.pass(days));
            }
        }
        Check.same("pass(1)", new SedgeBarges().pass(1), 0);
        Check.same("pass(200)", new SedgeBarges().pass(200), 0);
    }
}
