import java.util.ArrayList;
import java.util.List;
import java.util.function.Supplier;
import java.util.function.ToLongFunction;

/** Refused calls one behind another, on objects on which work has been done. */
public final class RefusedTest {
    public static void main(String[] args) {
        Check.holds("A method that throws an exception changes nothing.", RefusedTest::changesNothing);
        Check.holds("If several exceptions apply, the one that is named first is thrown.", RefusedTest::whichComesFirst);
        Check.end();
    }

    /** Refused by each scene, and for each reason that there is. */
    private static List<ToLongFunction<SedgeBarges>> refusedCalls() {
        List<ToLongFunction<SedgeBarges>> calls = new ArrayList<>();
        for (int wrong : new int[] {-1, 501}) {
            calls.add(x -> x.bed(wrong, 3, 50));
            calls.add(x -> x.bed(5, wrong, 50));
            calls.add(x -> x.bed(5, 3, wrong));
            calls.add(x -> x.cut(wrong));
            calls.add(x -> x.tie(wrong));
            calls.add(x -> x.buy(wrong));
            calls.add(x -> x.about(wrong, 3));
            calls.add(x -> x.about(0, wrong));
            calls.add(x -> x.best(wrong));
            calls.add(x -> x.barge(wrong));
            calls.add(x -> x.sail(wrong, 8));
            calls.add(x -> x.sail(0, wrong));
            calls.add(x -> x.load(wrong, 0));
            calls.add(x -> x.load(0, wrong));
            calls.add(x -> x.sell(wrong));
            calls.add(x -> x.told(wrong, 3));
            calls.add(x -> x.told(0, wrong));
            calls.add(x -> x.landing(wrong, 1));
            calls.add(x -> x.landing(1, wrong));
            calls.add(x -> x.would(wrong, 1));
            calls.add(x -> x.would(0, wrong));
            calls.add(x -> x.advise(wrong));
            calls.add(x -> x.count(wrong));
            calls.add(x -> x.pass(wrong));
            calls.add(x -> x.foresee(wrong, 9));
            calls.add(x -> x.foresee(9, wrong));
        }
        return calls;
    }

    private static List<ToLongFunction<SedgeBarges>> refusedByState() {
        List<ToLongFunction<SedgeBarges>> calls = new ArrayList<>(refusedCalls());
        calls.add(x -> x.bed(5, 3, 50));
        calls.add(x -> x.cut(4));
        calls.add(x -> x.barge(5));
        calls.add(x -> x.load(0, 3));
        calls.add(x -> x.load(1, 3));
        calls.add(x -> x.load(2, 0));
        calls.add(x -> x.sell(1));
        calls.add(x -> x.sell(2));
        return calls;
    }

    private static void changesNothing() {
        for (Supplier<SedgeBarges> scene : Scenes.ALL) {
            refusedOneBehindAnother(scene, refusedCalls());
        }
        refusedOneBehindAnother(Scenes::full, refusedByState());
        List<ToLongFunction<SedgeBarges>> dear = new ArrayList<>();
        dear.add(x -> x.buy(1));
        dear.add(x -> x.buy(500));
        dear.add(x -> x.cut(0));
        dear.add(x -> x.sell(0));
        refusedOneBehindAnother(Scenes::poor, dear);
    }

    /** All that is told is as in a fresh scene, and the same work goes on alike. */
    private static void refusedOneBehindAnother(Supplier<SedgeBarges> scene, List<ToLongFunction<SedgeBarges>> calls) {
        SedgeBarges x = scene.get();
        SedgeBarges fresh = scene.get();
        int number = 0;
        for (ToLongFunction<SedgeBarges> call : calls) {
            if (!isRefused(x, call)) {
                Check.tell("the call " + number + " of those to be refused is not refused");
            }
            number++;
        }
        if (!Check.picture(x).equals(Check.picture(fresh))) {
            Check.tell("refused calls changed what is told: " + Check.picture(x));
        }
        String got = workOn(x);
        String due = workOn(fresh);
        if (!got.equals(due)) {
            Check.tell("behind refused calls work went on as " + got + ", due is " + due);
        }
    }

    private static boolean isRefused(SedgeBarges x, ToLongFunction<SedgeBarges> call) {
        try {
            call.applyAsLong(x);
            return false;
        } catch (IllegalArgumentException | IllegalStateException | IndexOutOfBoundsException e) {
            return true;
        }
    }

    private static String workOn(SedgeBarges x) {
        StringBuilder text = new StringBuilder();
        for (int day = 0; day < 20; day++) {
            text.append(x.pass(5)).append(' ');
            for (int barge = 0; barge < x.count(7); barge++) {
                if (x.told(barge, 4) >= 0) {
                    text.append(x.sell(barge)).append(' ');
                }
            }
        }
        return text.append(x.digest()).append(' ').append(x.mean()).toString();
    }

    private static void whichComesFirst() {
        Check.outside(Scenes::full, "bed(31, 10, 101), the ninth", x -> x.bed(31, 10, 101));
        Check.outside(Scenes::full, "bed(-1, 3, 50), the ninth", x -> x.bed(-1, 3, 50));
        Check.wrongArgument(Scenes::full, "bed(5, 0, 50), the ninth", x -> x.bed(5, 0, 50));
        Check.wrongArgument(Scenes::full, "bed(5, 3, -1), the ninth", x -> x.bed(5, 3, -1));
        Check.wrongState(Scenes::full, "bed(5, 3, 50), the ninth", x -> x.bed(5, 3, 50));
        Check.wrongArgument(Scenes::poor, "buy(501) without coins", x -> x.buy(501));
        Check.wrongState(Scenes::poor, "buy(500) without coins", x -> x.buy(500));
        Check.outside(Scenes::full, "barge(31), the fourth", x -> x.barge(31));
        Check.wrongState(Scenes::full, "barge(30), the fourth", x -> x.barge(30));
        Check.outside(Scenes::full, "load(0, 8)", x -> x.load(0, 8));
        Check.outside(Scenes::full, "load(3, 0)", x -> x.load(3, 0));
        Check.wrongState(Scenes::full, "load(0, 7)", x -> x.load(0, 7));
        Check.wrongArgument(Scenes::full, "foresee(0, 8)", x -> x.foresee(0, 8));
        Check.wrongArgument(Scenes::full, "foresee(201, -1)", x -> x.foresee(201, -1));
        Check.outside(Scenes::full, "foresee(200, 8)", x -> x.foresee(200, 8));
    }
}
