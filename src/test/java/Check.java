/** What the tests share: each wrong answer is printed, and end() exits with 1 if there was one. */
final class Check {
    private static int wrong = 0;

    interface Call {
        long answer();
    }

    private Check() {
    }

    static void same(String call, long got, long due) {
        if (got != due) {
            tell(call + " answered " + got + ", due is " + due);
        }
    }

    static void sameDouble(String call, double got, double due) {
        if (Double.compare(got, due) != 0) {
            tell(call + " answered " + got + ", due is " + due);
        }
    }

    /** A refused call throws just the class that is due, none below it, and changes nothing. */
    static void refused(SedgeBarges x, Class<?> due, String call, Call refusedCall) {
        long before = x.digest();
        try {
            tell(call + " answered " + refusedCall.answer() + ", due is " + due.getSimpleName());
        } catch (RuntimeException e) {
            if (e.getClass() != due) {
                tell(call + " threw " + e + ", due is " + due.getSimpleName());
            }
        }
        if (x.digest() != before) {
            tell(call + " is refused, but changed something");
        }
    }

    static void outside(SedgeBarges x, String call, Call refusedCall) {
        refused(x, IndexOutOfBoundsException.class, call, refusedCall);
    }

    static void wrongArgument(SedgeBarges x, String call, Call refusedCall) {
        refused(x, IllegalArgumentException.class, call, refusedCall);
    }

    static void wrongState(SedgeBarges x, String call, Call refusedCall) {
        refused(x, IllegalStateException.class, call, refusedCall);
    }

    /** A call that only tells answers what is due, and changes nothing. */
    static void tells(SedgeBarges x, String call, long due, Call telling) {
        long before = x.digest();
        same(call, telling.answer(), due);
        if (x.digest() != before) {
            tell(call + " only tells, but changed something");
        }
    }

    static void bedIs(SedgeBarges x, int bed, int... due) {
        for (int what = 0; what < due.length; what++) {
            same("about(" + bed + ", " + what + ")", x.about(bed, what), due[what]);
        }
    }

    static void bargeIs(SedgeBarges x, int barge, int... due) {
        for (int what = 0; what < due.length; what++) {
            same("told(" + barge + ", " + what + ")", x.told(barge, what), due[what]);
        }
    }

    static void landingIs(SedgeBarges x, int landing, int... due) {
        for (int what = 0; what < due.length; what++) {
            same("landing(" + landing + ", " + what + ")", x.landing(landing, what), due[what]);
        }
    }

    static void countsAre(SedgeBarges x, int... due) {
        for (int what = 0; what < due.length; what++) {
            same("count(" + what + ")", x.count(what), due[what]);
        }
    }

    static void tell(String text) {
        wrong++;
        System.out.println("  " + text);
    }

    static void end() {
        if (wrong != 0) {
            System.exit(1);
        }
    }
}
