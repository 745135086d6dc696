import java.util.Arrays;

/**
 * Runs of calls on a Ghostracer and on the Model side by side, each below the 512 of an object even
 * with those that come in pairs. The calls come from a plain generator with a fixed seed a run, so
 * that each run is the same each time.
 */
public final class ModelTest {
    private static final int RUNS = 400;
    private static final int CALLS = 440;

    private long seed;
    private Ghostracer game = new Ghostracer();
    private Model model = new Model();
    private final boolean isWild;

    private ModelTest(int run) {
        seed = run * 7919L + 17;
        isWild = run % 4 == 3;
    }

    public static void main(String[] args) {
        for (int run = 0; run < RUNS; run++) {
            new ModelTest(run).run(run);
        }
        Check.end("ModelTest");
    }

    /** Both sides of one call. */
    private interface Asked {
        Object answer();
    }

    private static String told(Asked asked) {
        try {
            return String.valueOf(asked.answer());
        } catch (RuntimeException e) {
            return "throws." + e.getClass().getSimpleName();
        }
    }

    private int below(int bound) {
        seed = seed * 6364136223846793005L + 1442695040888963407L;
        return (int) ((seed >>> 33) % bound);
    }

    /** Mostly a number below the bound, now and then one that is out of range. */
    private int number(int bound) {
        if (below(isWild ? 4 : 25) != 0) {
            return below(Math.max(1, bound));
        }
        int[] odd = {-1, bound, bound + 1, -2, Integer.MAX_VALUE, Integer.MIN_VALUE};
        return odd[below(odd.length)];
    }

    private int from(int lowest, int highest) {
        int number = number(highest - lowest + 1);
        return number == Integer.MAX_VALUE ? number : number + lowest;
    }

    private void run(int run) {
        int calls = prepare(run);
        for (int call = calls; call < CALLS; call++) {
            int kind = below(100);
            int a = number(model.laps());
            int b = below(3);
            if (kind < 40) {
                drive(run, call, kind, a, b);
            } else if (kind < 58) {
                steward(run, call, kind, a);
            } else if (kind < 80) {
                ask(run, call, below(19), a);
            } else {
                season(run, call, below(10));
            }
        }
        Check.same("run " + run + " is sound", true, game.isSound());
    }

    private void same(String what, int run, int call, Asked mine, Asked models, int... arguments) {
        Check.same("run " + run + ", call " + call + ", " + what + Arrays.toString(arguments),
                told(models), told(mine));
    }

    /** One or two short tracks and cars; a wild run makes more, and some that are refused. */
    private int prepare(int run) {
        int calls = 0;
        for (int i = 0; i < (isWild ? 40 : 8); i++) {
            int track = isWild ? number(4) : i % 2;
            int length = isWild ? from(1, 30) : 3 + below(8);
            int limit = isWild ? from(1, 9) : 1 + below(5);
            int top = isWild ? from(1, 9) : 2 + below(8);
            int pull = isWild ? from(1, 4) : 1 + below(4);
            int grip = isWild ? from(0, 3) : below(4);
            if (i < 2 || isWild && below(3) == 0) {
                same("track", run, calls++, () -> game.track(), () -> model.track());
            }
            if (i < 2 || isWild) {
                same("car", run, calls++, () -> game.car(top, pull, grip),
                        () -> model.car(top, pull, grip), top, pull, grip);
            }
            same("stretch", run, calls++, () -> game.stretch(track, length, limit),
                    () -> model.stretch(track, length, limit), track, length, limit);
        }
        return calls;
    }

    private void drive(int run, int call, int kind, int a, int b) {
        if (kind < 18) {
            char input = "++++++=====--x".charAt(below(14));
            int times = from(1, isWild ? 20 : 8);
            same("type " + input, run, call, () -> game.type(input, times),
                    () -> model.type(input, times), times);
            return;
        }
        if (kind < 20) {
            same("wipe", run, call, () -> game.wipe(), () -> model.wipe());
            return;
        }
        int track = number(isWild ? 4 : 2);
        int car = number(2);
        if (kind < 24) {
            same("tryOut", run, call, () -> game.tryOut(track, car),
                    () -> model.tryOut(track, car), track, car);
            return;
        }
        int driver = number(6);
        int last = model.laps() - 1;
        int ghost = below(5) == 0 ? -1 : below(3) == 0 ? last : a;
        if (b == 0) {
            same("type more", run, call, () -> game.type('+', 20), () -> model.type('+', 20));
        }
        same("drive", run, call, () -> game.drive(driver, track, car, ghost),
                () -> model.drive(driver, track, car, ghost), driver, track, car, ghost);
    }

    private void steward(int run, int call, int kind, int a) {
        if (kind < 47) {
            same("strike", run, call, () -> game.strike(a), () -> model.strike(a), a);
        } else if (kind < 52) {
            same("giveBack", run, call, () -> game.giveBack(a), () -> model.giveBack(a), a);
        } else {
            int hundredths = below(2) == 0 ? 100 * below(5) : from(0, 9999);
            same("penalty", run, call, () -> game.penalty(a, hundredths),
                    () -> model.penalty(a, hundredths), a, hundredths);
        }
    }

    private void ask(int run, int call, int kind, int a) {
        int tick = number(12);
        boolean is = below(2) == 0;
        char what = "dtcgrx".charAt(below(6));
        Asked[] mine = {() -> game.time(a, is), () -> game.ticks(a), () -> game.inputAt(a, tick),
            () -> game.replay(a, tick, is), () -> game.of(a, what), () -> game.beats(a),
            () -> game.least(tick % 4), () -> game.base(a), () -> game.depth(a),
            () -> game.parts(a), () -> game.stored(), () -> game.resting(a),
            () -> game.stands(a), () -> game.checksum(), () -> game.shareStored(),
            () -> game.meanTime(), () -> game.laps(), () -> game.limitAt(a, tick),
            () -> game.lengthOf(a)};
        Asked[] models = {() -> model.time(a, is), () -> model.ticks(a),
            () -> model.inputAt(a, tick), () -> model.replay(a, tick, is),
            () -> model.of(a, what), () -> model.beats(a), () -> model.least(tick % 4),
            () -> model.base(a), () -> model.depth(a), () -> model.parts(a),
            () -> model.stored(), () -> model.resting(a), () -> model.stands(a),
            () -> model.checksum(), () -> model.shareStored(), () -> model.meanTime(),
            () -> model.laps(), () -> model.limitAt(a, tick), () -> model.lengthOf(a)};
        same("question " + kind + " " + is + " " + what, run, call, mine[kind], models[kind], a,
                tick);
    }

    private void season(int run, int call, int kind) {
        int round = number(10);
        int driver = number(6);
        int track = number(isWild ? 4 : 2);
        int dropped = number(4);
        if (kind == 0 && below(3) == 0) {
            same("round", run, call, () -> game.round(track), () -> model.round(track), track);
        } else if (kind == 1 && below(5) == 0) {
            same("shut", run, call, () -> game.shut(), () -> model.shut());
        } else if (kind == 2) {
            same("drop", run, call, () -> game.drop(dropped), () -> model.drop(dropped), dropped);
        } else if (kind < 5) {
            same("points", run, call, () -> game.points(driver), () -> model.points(driver),
                    driver);
        } else if (kind == 5) {
            same("wins", run, call, () -> game.wins(driver), () -> model.wins(driver), driver);
        } else if (kind == 6) {
            same("standing", run, call, () -> game.standing(driver),
                    () -> model.standing(driver), driver);
        } else if (kind < 9) {
            same("lapIn", run, call, () -> game.lapIn(round, driver),
                    () -> model.lapIn(round, driver), round, driver);
        } else {
            same("placeIn", run, call, () -> game.placeIn(round, driver),
                    () -> model.placeIn(round, driver), round, driver);
        }
    }
}
