import java.util.Arrays;

/**
 * Runs of calls on a Ghostracer and on the Model side by side, each up to the 512th call of the
 * object. The calls come from a plain generator with a fixed seed a run, so that each run is the
 * same each time.
 */
public final class ModelTest {
    private static final int RUNS = 480;
    private static final int CALLS = 512;
    /** Of each hundred calls of a run, by its kind, how many drive, are a steward's, or ask. */
    private static final int[][] SHARES = {{40, 18, 22}, {22, 33, 40}, {22, 18, 5}, {40, 18, 22}};
    private static final int CHAINS = 1;
    private static final int SEASONS = 2;
    private static final int WILD = 3;

    private final int run;
    private final int kind;
    private long seed;
    private int calls;
    private final Ghostracer game = new Ghostracer();
    private final Model model = new Model();

    private ModelTest(int run) {
        this.run = run;
        kind = run % 4;
        seed = run * 7919L + 17;
    }

    public static void main(String[] args) {
        for (int run = 0; run < RUNS; run++) {
            new ModelTest(run).run();
        }
        Check.end("ModelTest");
    }

    /** One side of a call. */
    private interface Asked {
        Object answer();
    }

    private static String told(Asked asked) {
        try {
            return String.valueOf(asked.answer());
        } catch (RuntimeException e) {
            return "throws." + e.getClass().getSimpleName();
        }
    }

    private int below(int bound) {
        seed = seed * 6364136223846793005L + 1442695040888963407L;
        return (int) ((seed >>> 33) % bound);
    }

    /** Mostly a number below the bound, now and then one that is out of range. */
    private int number(int bound) {
        if (below(kind == WILD ? 4 : 25) != 0) {
            return below(Math.max(1, bound));
        }
        int[] odd = {-1, bound, bound + 1, -2, Integer.MAX_VALUE, Integer.MIN_VALUE};
        return odd[below(odd.length)];
    }

    private int from(int lowest, int highest) {
        int number = number(highest - lowest + 1);
        return number == Integer.MAX_VALUE ? number : number + lowest;
    }

    /** A step is four calls at most, so that the last ones fill what is left up to the 512th. */
    private void run() {
        prepare();
        while (calls < CALLS - 4) {
            int share = below(100);
            int[] shares = SHARES[kind];
            if (share < shares[0]) {
                drive();
            } else if (share < shares[0] + shares[1]) {
                steward();
            } else if (share < shares[0] + shares[1] + shares[2]) {
                ask();
            } else {
                season();
            }
        }
        while (calls < CALLS - 1) {
            ask();
        }
        same("isSound", () -> game.isSound(), () -> model.isSound());
        Check.same("calls of run " + run, CALLS, calls);
    }

    private void same(String what, Asked mine, Asked models, int... arguments) {
        calls++;
        Check.same("run " + run + ", call " + calls + ", " + what + Arrays.toString(arguments),
                told(models), told(mine));
    }

    /** One or two short tracks and cars; a wild run makes more, and some that are refused. */
    private void prepare() {
        boolean isWild = kind == WILD;
        for (int i = 0; i < (isWild ? 40 : 8); i++) {
            int track = isWild ? number(4) : i % 2;
            int length = isWild ? from(1, 30) : 3 + below(8);
            int limit = isWild ? from(1, 9) : 1 + below(5);
            int top = isWild ? from(1, 9) : 2 + below(8);
            int pull = isWild ? from(1, 4) : 1 + below(4);
            int grip = isWild ? from(0, 3) : below(4);
            if (i < 2 || isWild && below(3) == 0) {
                same("track", () -> game.track(), () -> model.track());
            }
            if (i < 2 || isWild) {
                same("car", () -> game.car(top, pull, grip), () -> model.car(top, pull, grip),
                        top, pull, grip);
            }
            same("stretch", () -> game.stretch(track, length, limit),
                    () -> model.stretch(track, length, limit), track, length, limit);
        }
    }

    private void drive() {
        if (kind == CHAINS || kind == SEASONS) {
            driveLap();
            return;
        }
        int what = below(40);
        if (what < 18) {
            type("++++++=====--x".charAt(below(14)), from(1, kind == WILD ? 20 : 8));
        } else if (what < 20) {
            same("wipe", () -> game.wipe(), () -> model.wipe());
        } else if (what < 24) {
            int track = number(kind == WILD ? 4 : 2);
            int car = number(2);
            same("tryOut", () -> game.tryOut(track, car), () -> model.tryOut(track, car), track,
                    car);
        } else {
            if (below(3) == 0) {
                type('+', 20);
            }
            driveTyped(number(kind == WILD ? 4 : 2));
        }
    }

    /** Types what is a lap mostly, and drives it; in a run of seasons, a round is told before. */
    private void driveLap() {
        int track = kind == CHAINS ? 0 : below(2);
        if (kind == SEASONS && below(4) == 0) {
            same("round", () -> game.round(track), () -> model.round(track), track);
        }
        type("=+-".charAt(below(3)), 1 + below(3));
        type('+', 20);
        driveTyped(track);
    }

    private void type(char input, int times) {
        same("type " + input, () -> game.type(input, times), () -> model.type(input, times),
                times);
    }

    private void driveTyped(int track) {
        int driver = number(6);
        int car = number(2);
        int any = number(model.laps());
        int last = model.laps() - 1;
        int ghost = below(kind == CHAINS ? 15 : 5) == 0 ? -1 : below(3) == 0 ? any : last;
        same("drive", () -> game.drive(driver, track, car, ghost),
                () -> model.drive(driver, track, car, ghost), driver, track, car, ghost);
    }

    private void steward() {
        int what = below(12);
        int lap = number(model.laps());
        if (what < 5) {
            same("strike", () -> game.strike(lap), () -> model.strike(lap), lap);
        } else if (what < 9) {
            same("giveBack", () -> game.giveBack(lap), () -> model.giveBack(lap), lap);
        } else {
            int hundredths = below(2) == 0 ? 100 * below(5) : from(0, 9999);
            same("penalty", () -> game.penalty(lap, hundredths),
                    () -> model.penalty(lap, hundredths), lap, hundredths);
        }
    }

    private void ask() {
        int a = number(model.laps());
        int tick = number(12);
        boolean is = below(2) == 0;
        char what = "dtcgrx".charAt(below(6));
        Asked[] mine = {() -> game.time(a, is), () -> game.ticks(a), () -> game.inputAt(a, tick),
            () -> game.replay(a, tick, is), () -> game.of(a, what), () -> game.beats(a),
            () -> game.least(tick % 4), () -> game.base(a), () -> game.depth(a),
            () -> game.parts(a), () -> game.stored(), () -> game.resting(a),
            () -> game.stands(a), () -> game.checksum(), () -> game.shareStored(),
            () -> game.meanTime(), () -> game.laps(), () -> game.limitAt(a, tick),
            () -> game.lengthOf(a)};
        Asked[] models = {() -> model.time(a, is), () -> model.ticks(a),
            () -> model.inputAt(a, tick), () -> model.replay(a, tick, is),
            () -> model.of(a, what), () -> model.beats(a), () -> model.least(tick % 4),
            () -> model.base(a), () -> model.depth(a), () -> model.parts(a),
            () -> model.stored(), () -> model.resting(a), () -> model.stands(a),
            () -> model.checksum(), () -> model.shareStored(), () -> model.meanTime(),
            () -> model.laps(), () -> model.limitAt(a, tick), () -> model.lengthOf(a)};
        int asked = kind == CHAINS ? 7 + below(7) : below(mine.length);
        same("question " + asked + " " + is + " " + what, mine[asked], models[asked], a, tick);
    }

    private void season() {
        int what = below(10);
        int round = number(10);
        int driver = number(6);
        int track = number(kind == WILD ? 4 : 2);
        int dropped = number(4);
        if (what == 0) {
            openOrShut(track);
        } else if (what == 1) {
            same("drop", () -> game.drop(dropped), () -> model.drop(dropped), dropped);
        } else if (what < 4) {
            same("points", () -> game.points(driver), () -> model.points(driver), driver);
        } else if (what == 4) {
            same("wins", () -> game.wins(driver), () -> model.wins(driver), driver);
        } else if (what < 7) {
            same("standing", () -> game.standing(driver), () -> model.standing(driver), driver);
        } else if (what < 9) {
            same("lapIn", () -> game.lapIn(round, driver), () -> model.lapIn(round, driver),
                    round, driver);
        } else {
            same("placeIn", () -> game.placeIn(round, driver),
                    () -> model.placeIn(round, driver), round, driver);
        }
    }

    private void openOrShut(int track) {
        if (below(2) == 0) {
            same("shut", () -> game.shut(), () -> model.shut());
        } else if (kind != SEASONS) {
            same("round", () -> game.round(track), () -> model.round(track), track);
        }
    }
}
