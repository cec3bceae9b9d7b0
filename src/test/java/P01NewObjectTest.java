/** Promise 1: a new waterway has no beds and no barges, and it is the day 0. */
public final class P01NewObjectTest {
    public static void main(String[] args) {
        SedgeBarges x = new SedgeBarges();
        Check.countsAre(x, 0, 20, 100, 0, 0, 0, 0, 0, 0, 0, 0);
        Check.landingIs(x, 0, 2, 0, 12, 6);
        Check.landingIs(x, 1, 15, 0, 9, 4);
        Check.landingIs(x, 2, 28, 0, 14, 7);
        Check.outside(x, "about(0, 0)", () -> x.about(0, 0));
        Check.outside(x, "told(0, 0)", () -> x.told(0, 0));
        Check.sameDouble("mean()", x.mean(), 0);
        objectsShareNothing();
        Check.end();
    }

    private static void objectsShareNothing() {
        SedgeBarges x = new SedgeBarges();
        x.bed(15, 9, 50);
        x.barge(15);
        x.cut(0);
        x.tie(0);
        x.load(0, 0);
        x.sell(0);
        x.pass(150);
        SedgeBarges y = new SedgeBarges();
        Check.countsAre(y, 0, 20, 100, 0, 0, 0, 0, 0, 0, 0, 0);
        Check.same("landing(1, 1)", y.landing(1, 1), 0);
    }
}
