import java.util.function.Supplier;
import java.util.function.ToLongFunction;

/**
 * What the tests share. Each wrong answer is printed below the sentence of the document that it breaks,
 * and end() exits with 1 if there was one.
 */
final class Check {
    private static final Class<?> OUTSIDE = IndexOutOfBoundsException.class;
    private static final Class<?> WRONG_ARGUMENT = IllegalArgumentException.class;
    private static final Class<?> WRONG_STATE = IllegalStateException.class;

    private static int held = 0;
    private static int broken = 0;
    private static int wrong = 0;

    private Check() {
    }

    /** The test of one sentence; the words are the document's. */
    static void holds(String sentence, Runnable test) {
        int before = wrong;
        try {
            test.run();
        } catch (RuntimeException e) {
            tell("a call that is not refused threw " + e);
        }
        if (wrong == before) {
            held++;
        } else {
            broken++;
            System.out.println("  broken: " + sentence);
        }
    }

    static void same(String call, long got, long due) {
        if (got != due) {
            tell(call + " answered " + got + ", due is " + due);
        }
    }

    static void sameDouble(String call, double got, double due) {
        if (Double.compare(got, due) != 0) {
            tell(call + " answered " + got + ", due is " + due);
        }
    }

    /** In the scene the call throws just the class that is due, none below it. */
    private static void refused(Supplier<SedgeBarges> scene, Class<?> due, String call,
            ToLongFunction<SedgeBarges> refusedCall) {
        SedgeBarges x = scene.get();
        try {
            tell(call + " answered " + refusedCall.applyAsLong(x) + ", due is " + due.getSimpleName());
        } catch (RuntimeException e) {
            if (e.getClass() != due) {
                tell(call + " threw " + e + ", due is " + due.getSimpleName());
            }
        }
        unchanged(scene, x, call);
    }

    static void outside(Supplier<SedgeBarges> scene, String call, ToLongFunction<SedgeBarges> refusedCall) {
        refused(scene, OUTSIDE, call, refusedCall);
    }

    static void wrongArgument(Supplier<SedgeBarges> scene, String call, ToLongFunction<SedgeBarges> refusedCall) {
        refused(scene, WRONG_ARGUMENT, call, refusedCall);
    }

    static void wrongState(Supplier<SedgeBarges> scene, String call, ToLongFunction<SedgeBarges> refusedCall) {
        refused(scene, WRONG_STATE, call, refusedCall);
    }

    /** In the scene the call answers what is due, and changes nothing. */
    static void tells(Supplier<SedgeBarges> scene, String call, long due, ToLongFunction<SedgeBarges> telling) {
        SedgeBarges x = scene.get();
        same(call, telling.applyAsLong(x), due);
        unchanged(scene, x, call);
    }

    /** What is told is as in a fresh scene where the call was not made, and is so behind some days more. */
    private static void unchanged(Supplier<SedgeBarges> scene, SedgeBarges x, String call) {
        SedgeBarges fresh = scene.get();
        String due = picture(fresh);
        String got = picture(x);
        if (!got.equals(due)) {
            tell(call + " is to change nothing, but made " + got + " of " + due);
        }
        x.pass(101);
        fresh.pass(101);
        if (!picture(x).equals(picture(fresh))) {
            tell(call + " is to change nothing, but changed what comes later");
        }
    }

    /** All that an object tells: unlike a checksum it can't be the same for two states. */
    static String picture(SedgeBarges x) {
        StringBuilder text = new StringBuilder("counts");
        for (int what = 0; what <= 10; what++) {
            text.append(' ').append(x.count(what));
        }
        for (int bed = 0; bed < x.count(3); bed++) {
            text.append(", bed");
            for (int what = 0; what <= 9; what++) {
                text.append(' ').append(x.about(bed, what));
            }
        }
        for (int barge = 0; barge < x.count(7); barge++) {
            text.append(", barge");
            for (int what = 0; what <= 5; what++) {
                text.append(' ').append(x.told(barge, what));
            }
        }
        for (int landing = 0; landing <= 2; landing++) {
            text.append(", landing");
            for (int what = 0; what <= 3; what++) {
                text.append(' ').append(x.landing(landing, what));
            }
        }
        return text.toString();
    }

    static void bedIs(SedgeBarges x, int bed, int... due) {
        for (int what = 0; what < due.length; what++) {
            same("about(" + bed + ", " + what + ")", x.about(bed, what), due[what]);
        }
    }

    static void bargeIs(SedgeBarges x, int barge, int... due) {
        for (int what = 0; what < due.length; what++) {
            same("told(" + barge + ", " + what + ")", x.told(barge, what), due[what]);
        }
    }

    static void landingIs(SedgeBarges x, int landing, int... due) {
        for (int what = 0; what < due.length; what++) {
            same("landing(" + landing + ", " + what + ")", x.landing(landing, what), due[what]);
        }
    }

    static void countsAre(SedgeBarges x, int... due) {
        for (int what = 0; what < due.length; what++) {
            same("count(" + what + ")", x.count(what), due[what]);
        }
    }

    static void tell(String text) {
        wrong++;
        System.out.println("  " + text);
    }

    static void end() {
        System.out.println("  " + held + " sentences hold, " + broken + " broken");
        if (wrong != 0) {
            System.exit(1);
        }
    }
}
