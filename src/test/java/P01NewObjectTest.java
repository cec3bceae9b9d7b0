/** Promise 1: a new waterway has no beds and no barges, and it is the day 0. */
public final class P01NewObjectTest {
    public static void main(String[] args) {
        Check.holds("Creates a waterway without beds and barges, on the day 0.", P01NewObjectTest::isEmpty);
        Check.holds("Creates a waterway (each for itself)", P01NewObjectTest::sharesNothing);
        Check.end();
    }

    private static void isEmpty() {
        Check.countsAre(new SedgeBarges(), 0, 20, 100, 0, 0, 0, 0, 0, 0, 0, 0);
        Check.outside(Scenes::empty, "about(0, 0)", x -> x.about(0, 0));
        Check.outside(Scenes::empty, "told(0, 0)", x -> x.told(0, 0));
    }

    private static void sharesNothing() {
        SedgeBarges before = new SedgeBarges();
        String due = Check.picture(before);
        SedgeBarges other = Scenes.full();
        other.pass(150);
        if (!Check.picture(before).equals(due)) {
            Check.tell("work on one object changed an older one");
        }
        if (!Check.picture(new SedgeBarges()).equals(due)) {
            Check.tell("work on one object changed what a newer one is at first");
        }
    }
}
