import java.util.Random;
import java.util.function.IntPredicate;
import java.util.function.LongSupplier;

/**
 * Runs of 512 calls, drawn from written seeds, with the same answers from the program and the model. In half of the
 * runs every second call is digest(), which tells of all that changed.
 */
public final class ModelTest {
    private static final int RUNS = 600;
    private static final int CALLS = 512;
    private static final int KINDS = 18;
    private static final int DIGEST = 18;
    private static final int[] EXTREMES = {Integer.MIN_VALUE, -1000, -1, 31, 201, 501, 1000, Integer.MAX_VALUE};

    // The work that fills landings: cut, buy, tie, load, sell and short times, mostly.
    private static final int[] BUSY_KINDS = {1, 1, 2, 2, 3, 7, 8, 8, 8, 9, 9, 9, 12, 13, 13, 15, 15};

    // Where beds and barges of a busy run mostly are: at all landings, or at one of them and a day away from it.
    private static final int[][] BUSY_PLACES = {{2, 15, 28}, {2, 2, 2, 7}, {15, 15, 15, 20}, {28, 28, 28, 23}};

    private final Random random;
    private final boolean busy;
    private final boolean watched;
    private final int[] busyPlaces;
    private final SedgeBarges program = new SedgeBarges();
    private final Model model = new Model();

    private ModelTest(long seed) {
        random = new Random(seed);
        busy = seed % 3 == 0;
        watched = seed % 2 == 0;
        busyPlaces = BUSY_PLACES[(int) (seed / 6 % BUSY_PLACES.length)];
    }

    public static void main(String[] args) {
        Check.holds("(long runs of calls, as a second and plainer program answers them)", ModelTest::compare);
        Check.end();
    }

    private static void compare() {
        for (int run = 0; run < RUNS; run++) {
            if (!new ModelTest(run).agrees(run)) {
                break;
            }
        }
    }

    private boolean agrees(int run) {
        for (int call = 0; call < CALLS; call++) {
            int kind = kind(call);
            int a = firstArgument(kind);
            int b = secondArgument(kind, a);
            int c = mostly(0, 100);
            String got = answer(() -> ofProgram(kind, a, b, c));
            String due = answer(() -> ofModel(kind, a, b, c));
            if (!got.equals(due)) {
                Check.tell("run " + run + ", call " + call + ": kind " + kind + " (" + a + ", " + b + ", " + c
                        + ") answered " + got + ", by the model it is " + due);
                return false;
            }
        }
        return true;
    }

    private int kind(int call) {
        if (call == CALLS - 1 || watched && call % 2 == 1) {
            return DIGEST;
        }
        if (busy && call < 22 && (!watched || call % 2 == 0)) {
            return model.count(3) < 8 ? 0 : 6;
        }
        if (busy && random.nextInt(5) != 0) {
            return BUSY_KINDS[random.nextInt(BUSY_KINDS.length)];
        }
        return random.nextInt(KINDS);
    }

    private int mostly(int least, int most) {
        if (random.nextInt(40) == 0) {
            return EXTREMES[random.nextInt(EXTREMES.length)];
        }
        if (random.nextInt(40) == 0) {
            return random.nextBoolean() ? least - 1 : most + 1;
        }
        return least + random.nextInt(most - least + 1);
    }

    /** Few places, so that beds lie near one another, and barges come to beds and landings. */
    private int place() {
        if (busy && random.nextInt(12) != 0) {
            return busyPlaces[random.nextInt(busyPlaces.length)];
        }
        int[] near = {0, 2, 2, 4, 7, 11, 12, 15, 15, 19, 24, 28, 28, 30};
        return random.nextInt(4) == 0 ? mostly(0, 30) : near[random.nextInt(near.length)];
    }

    private int anyBed() {
        return mostly(0, Math.max(0, model.count(3) - 1));
    }

    /** In a busy run mostly a bed that the call has something to do with, if there is one. */
    private int bedWhere(IntPredicate fits) {
        int drawn = anyBed();
        if (!busy || random.nextInt(8) == 0) {
            return drawn;
        }
        int beds = model.count(3);
        for (int i = 0; i < beds; i++) {
            int bed = Math.floorMod(drawn + i, beds);
            if (fits.test(bed)) {
                return bed;
            }
        }
        return drawn;
    }

    private boolean isBarge(int barge) {
        return barge >= 0 && barge < model.count(7);
    }

    private int firstArgument(int kind) {
        switch (kind) {
            case 0: case 6: return place();
            case 1: return bedWhere(bed -> model.about(bed, 4) > 0);
            case 2: return bedWhere(bed -> model.about(bed, 6) + model.about(bed, 7) > 0);
            case 4: case 5: return anyBed();
            case 3: return mostly(busy ? 400 : 1, random.nextBoolean() || busy ? 500 : 100);
            case 11: return mostly(0, 2);
            case 14: return mostly(0, 10);
            case 15: return random.nextInt(3) == 0 ? mostly(1, 200) : mostly(1, busy ? 2 : 6);
            case 16: return mostly(1, 200);
            default: return mostly(0, Math.max(0, model.count(7) - 1));
        }
    }

    private int secondArgument(int kind, int first) {
        switch (kind) {
            case 0: return mostly(busy ? 7 : 1, 9);
            case 4: return mostly(0, 9);
            case 7: return place();
            case 8: return bedWhere(bed -> isBarge(first) && model.about(bed, 0) == model.told(first, 0)
                    && model.about(bed, 8) + model.about(bed, 9) > 0);
            case 10: return mostly(0, 5);
            case 11: return mostly(0, 3);
            case 12: return mostly(0, 2);
            default: return random.nextInt(4) == 0 ? mostly(0, 10) : new int[] {4, 5, 9, 10}[random.nextInt(4)];
        }
    }

    private static String answer(LongSupplier call) {
        try {
            return Long.toString(call.getAsLong());
        } catch (RuntimeException e) {
            return e.getClass().getSimpleName();
        }
    }

    private long ofProgram(int kind, int a, int b, int c) {
        switch (kind) {
            case 0: return program.bed(a, b, c);
            case 1: return program.cut(a);
            case 2: return program.tie(a);
            case 3: return program.buy(a);
            case 4: return program.about(a, b);
            case 5: return program.best(a);
            case 6: return program.barge(a);
            case 7: return program.sail(a, b);
            case 8: return program.load(a, b);
            case 9: return program.sell(a);
            case 10: return program.told(a, b);
            case 11: return program.landing(a, b);
            case 12: return program.would(a, b);
            case 13: return program.advise(a);
            case 14: return program.count(a);
            case 15: return program.pass(a);
            case 16: return program.foresee(a, b);
            case 17: return Double.doubleToLongBits(program.mean());
            default: return program.digest();
        }
    }

    private long ofModel(int kind, int a, int b, int c) {
        switch (kind) {
            case 0: return model.bed(a, b, c);
            case 1: return model.cut(a);
            case 2: return model.tie(a);
            case 3: return model.buy(a);
            case 4: return model.about(a, b);
            case 5: return model.best(a);
            case 6: return model.barge(a);
            case 7: return model.sail(a, b);
            case 8: return model.load(a, b);
            case 9: return model.sell(a);
            case 10: return model.told(a, b);
            case 11: return model.landing(a, b);
            case 12: return model.would(a, b);
            case 13: return model.advise(a);
            case 14: return model.count(a);
            case 15: return model.pass(a);
            case 16: return model.foresee(a, b);
            case 17: return Double.doubleToLongBits(model.mean());
            default: return model.digest();
        }
    }
}
