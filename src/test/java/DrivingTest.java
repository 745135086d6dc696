/** Promises 7 to 10, and what the terms say of driving. */
public final class DrivingTest {
    public static void main(String[] args) {
        type();
        typeIsRefused();
        wipe();
        driveNumbersLaps();
        driveEmptiesWhatIsTyped();
        driveIsRefused();
        tryOut();
        speeds();
        slides();
        ends();
        Check.end("DrivingTest");
    }

    private static void type() {
        Ghostracer game = Games.bend();
        Check.due("once", 1, game, g -> g.type('+', 1));
        Check.due("twenty times", 21, game, g -> g.type('-', 20));
        Check.due("another input", 24, game, g -> g.type('=', 3));
        Check.due("once more twenty", 44, game, g -> g.type('=', 20));
        Check.due("up to sixty", 60, game, g -> g.type('=', 16));
        Check.due("the sixty-first", Check.STATE, game, g -> g.type('=', 1));
        Check.due("sixty are still typed", 60, game, g -> g.wipe());
    }

    private static Ghostracer fiftyNine() {
        Ghostracer game = Games.bend();
        game.type('+', 20);
        game.type('+', 20);
        game.type('+', 19);
        return game;
    }

    private static Ghostracer sixty() {
        Ghostracer game = fiftyNine();
        game.type('+', 1);
        return game;
    }

    private static void typeIsRefused() {
        Check.Setup bend = Games::bend;
        for (char input : new char[] {'*', ' ', 0, 'p', ',', '<', '>', 0xffff}) {
            Check.refused("the input " + (int) input, Check.ARGUMENT, bend, g -> g.type(input, 1));
        }
        Check.refused("no times", Check.ARGUMENT, bend, g -> g.type('+', 0));
        Check.refused("times below", Check.ARGUMENT, bend, g -> g.type('+', -1));
        Check.refused("21 times", Check.ARGUMENT, bend, g -> g.type('=', 21));
        Check.refused("most times", Check.ARGUMENT, bend, g -> g.type('-', Integer.MAX_VALUE));
        Check.refused("61 in all", Check.STATE, DrivingTest::fiftyNine, g -> g.type('-', 2));
        Check.due("60 in all", 60, fiftyNine(), g -> g.type('-', 1));
        Check.refused("full", Check.STATE, DrivingTest::sixty, g -> g.type('+', 1));
        Check.refused("the input ahead of full", Check.ARGUMENT, DrivingTest::sixty,
                g -> g.type('x', 1));
        Check.refused("the times ahead of full", Check.ARGUMENT, DrivingTest::sixty,
                g -> g.type('+', 21));
    }

    private static void wipe() {
        Ghostracer game = Games.bend();
        Check.due("nothing", 0, game, g -> g.wipe());
        game.type('+', 7);
        Check.due("seven", 7, game, g -> g.wipe());
        Check.due("nothing any more", 0, game, g -> g.wipe());
        Check.due("typing begins anew", 2, game, g -> g.type('-', 2));
        Check.due("all sixty", 60, sixty(), g -> g.wipe());
    }

    private static void driveNumbersLaps() {
        Ghostracer game = Games.five();
        for (int i = 0; i < 30; i++) {
            Check.due("the laps' numbers", i, Games.type(game, "+===="), g -> g.drive(5, 0, 0, -1));
        }
        Check.due("thirty laps", 30, game, g -> g.laps());
        Games.type(game, "+====");
        Check.due("the thirty-first", Check.STATE, game, g -> g.drive(5, 0, 0, -1));
        Check.due("it stays typed", 5, game, g -> g.wipe());
    }

    private static void driveEmptiesWhatIsTyped() {
        Ghostracer game = Games.five();
        Games.type(game, "+====---");
        Check.due("more than the lap needs", 0, game, g -> g.drive(0, 0, 0, -1));
        Check.due("nothing is typed then", 0, game, g -> g.wipe());
        Check.due("what is behind the end is no part", 5, game, g -> g.ticks(0));
        Check.due("the time is by the lap's ticks", 500, game, g -> g.time(0, false));
        Games.type(game, "====");
        Check.due("nothing goes on from the lap before", Check.UNSUPPORTED, game,
                g -> g.drive(0, 0, 0, -1));
        Check.due("a refused lap stays typed", 4, game, g -> g.wipe());
    }

    private static Ghostracer threeTracks() {
        Ghostracer game = Games.five();
        game.track();
        game.track();
        game.stretch(2, 5, 9);
        Games.drive(game, "+====", 0, -1);
        Games.drive(game, "+====", 1, -1);
        game.strike(1);
        game.round(0);
        Games.type(game, "+++++");
        return game;
    }

    private static Ghostracer threeTracksTooShort() {
        Ghostracer game = threeTracks();
        game.wipe();
        Games.type(game, "++++");
        return game;
    }

    private static Ghostracer fullAndTyped() {
        return Games.type(Games.fullOfLaps(), "+++++");
    }

    private static Ghostracer fullAndTooShort() {
        return Games.type(Games.fullOfLaps(), "++++");
    }

    private static void driveIsRefused() {
        Check.Setup three = DrivingTest::threeTracks;
        Check.refused("driver below", Check.INDEX, three, g -> g.drive(-1, 0, 0, -1));
        Check.refused("driver beyond", Check.INDEX, three, g -> g.drive(6, 0, 0, -1));
        Check.refused("track below", Check.INDEX, three, g -> g.drive(0, -1, 0, -1));
        Check.refused("track beyond", Check.INDEX, three, g -> g.drive(0, 3, 0, -1));
        Check.refused("car below", Check.INDEX, three, g -> g.drive(0, 0, -1, -1));
        Check.refused("car beyond", Check.INDEX, three, g -> g.drive(0, 0, 1, -1));
        Check.refused("car ahead of ghost", Check.INDEX, three, g -> g.drive(0, 0, 1, 7));
        Check.refused("ghost -2", Check.NO_ELEMENT, three, g -> g.drive(0, 0, 0, -2));
        Check.refused("ghost beyond", Check.NO_ELEMENT, three, g -> g.drive(0, 0, 0, 2));
        Check.refused("ghost far beyond", Check.NO_ELEMENT, three,
                g -> g.drive(0, 0, 0, Integer.MAX_VALUE));
        Check.refused("ghost struck out", Check.NO_ELEMENT, three, g -> g.drive(0, 0, 0, 1));
        Check.refused("ghost elsewhere", Check.NO_ELEMENT, three, g -> g.drive(0, 2, 0, 0));
        Check.refused("ghost ahead of stretches", Check.NO_ELEMENT, three,
                g -> g.drive(0, 1, 0, 0));
        Check.refused("no stretches", Check.UNSUPPORTED, three, g -> g.drive(0, 1, 0, -1));
        Check.refused("not over", Check.UNSUPPORTED, DrivingTest::threeTracksTooShort,
                g -> g.drive(0, 0, 0, -1));
        Check.refused("ghost ahead of over", Check.NO_ELEMENT, DrivingTest::threeTracksTooShort,
                g -> g.drive(0, 0, 0, 1));
        Check.refused("nothing typed", Check.UNSUPPORTED, Games::bend, g -> g.drive(0, 0, 0, -1));
        Check.refused("thirty laps", Check.STATE, DrivingTest::fullAndTyped,
                g -> g.drive(0, 0, 0, 29));
        Check.refused("ghost ahead of thirty", Check.NO_ELEMENT, DrivingTest::fullAndTyped,
                g -> g.drive(0, 0, 0, 30));
        Check.refused("over ahead of thirty", Check.UNSUPPORTED, DrivingTest::fullAndTooShort,
                g -> g.drive(0, 0, 0, 0));
        Check.due("a ghost that was given back", 2, threeTracks(), g -> {
            g.giveBack(1);
            return g.drive(0, 0, 0, 1);
        });
    }

    private static void tryOut() {
        Ghostracer game = Games.type(Games.bend(), "+++===");
        Check.due("the time", 434, game, g -> g.tryOut(0, 0));
        Check.due("again, as it stays typed", 434, game, g -> g.tryOut(0, 0));
        Check.due("no lap is kept", 0, game, g -> g.laps());
        Check.due("stretches can be added still", 20, game, g -> g.stretch(0, 4, 4));
        Check.due("six are typed still", 6, game, g -> g.wipe());
        Check.Setup three = DrivingTest::threeTracks;
        Check.refused("track below", Check.INDEX, three, g -> g.tryOut(-1, 0));
        Check.refused("track beyond", Check.INDEX, three, g -> g.tryOut(3, 0));
        Check.refused("car below", Check.INDEX, three, g -> g.tryOut(0, -1));
        Check.refused("car beyond", Check.INDEX, three, g -> g.tryOut(0, 1));
        Check.refused("car ahead of stretches", Check.INDEX, three, g -> g.tryOut(1, 1));
        Check.refused("no stretches", Check.UNSUPPORTED, three, g -> g.tryOut(1, 0));
        Check.refused("not over", Check.UNSUPPORTED, DrivingTest::threeTracksTooShort,
                g -> g.tryOut(0, 0));
        Check.refused("nothing typed", Check.UNSUPPORTED, Games::bend, g -> g.tryOut(0, 0));
        Check.due("thirty laps bar no trial", 500, fullAndTyped(), g -> g.tryOut(0, 0));
    }

    /** A lap on a track of one stretch. */
    private static Ghostracer lap(int length, int limit, int top, int pull, int grip, String word) {
        Ghostracer game = new Ghostracer();
        game.track();
        game.stretch(0, length, limit);
        game.car(top, pull, grip);
        Games.drive(game, word, 0, -1);
        return game;
    }

    private static void replayIs(String what, Ghostracer game, int tick, int place, int speed) {
        Check.due(what + ", place behind " + tick, place, game, g -> g.replay(0, tick, false));
        Check.due(what + ", speed behind " + tick, speed, game, g -> g.replay(0, tick, true));
    }

    private static void speeds() {
        Ghostracer game = lap(30, 9, 7, 3, 0, "-+=+--+-=+++++");
        replayIs("the beginning", game, 0, 0, 0);
        replayIs("'-' at least 0", game, 1, 0, 0);
        replayIs("'+' the pull more", game, 2, 3, 3);
        replayIs("'=' as before", game, 3, 6, 3);
        replayIs("'+' again", game, 4, 12, 6);
        replayIs("'-' the pull less", game, 5, 15, 3);
        replayIs("'-' to 0", game, 6, 15, 0);
        replayIs("'+' from 0", game, 7, 18, 3);
        replayIs("'-' to 0 again", game, 8, 18, 0);
        replayIs("'=' at 0", game, 9, 18, 0);
        replayIs("'+' anew", game, 10, 21, 3);
        replayIs("'+' anew, twice", game, 11, 27, 6);
        replayIs("'+' to the top speed", game, 12, 34, 7);
        Check.due("ticks", 12, game, g -> g.ticks(0));
        Check.due("time, 1200 - 400 / 7", 1143, game, g -> g.time(0, false));
        replayIs("'-' below the pull", lap(9, 9, 9, 4, 0, "+++-"), 2, 12, 8);
        Ghostracer slow = lap(20, 9, 5, 3, 0, "+++--+++++");
        replayIs("the top speed is no multiple of the pull", slow, 3, 13, 5);
        replayIs("'-' to what is left", slow, 4, 15, 2);
        replayIs("'-' not below 0", slow, 5, 15, 0);
    }

    private static void slides() {
        Ghostracer equal = lap(20, 3, 9, 4, 1, "+=====");
        replayIs("as fast as limit and grip", equal, 1, 4, 4);
        Ghostracer more = lap(20, 2, 9, 4, 1, "+=====" + "+++++");
        replayIs("faster than limit and grip", more, 1, 4, 2);
        Ghostracer odd = lap(20, 1, 5, 1, 1, "+++==============");
        replayIs("at the edge", odd, 2, 3, 2);
        replayIs("half, cut", odd, 3, 6, 1);
        replayIs("on by what is left", odd, 4, 7, 1);
        Ghostracer bend = new Ghostracer();
        bend.track();
        bend.stretch(0, 4, 9);
        bend.stretch(0, 4, 1);
        bend.stretch(0, 4, 9);
        bend.car(4, 4, 0);
        bend.car(3, 3, 0);
        Games.drive(bend, "+=======", 0, -1);
        replayIs("the first place of a stretch is in it", bend, 1, 4, 2);
        replayIs("slides while in it", bend, 2, 6, 1);
        replayIs("no slide within the limit", bend, 3, 7, 1);
        Games.type(bend, "+=======");
        bend.drive(0, 0, 1, -1);
        Check.due("the last place is of the stretch before", 3, bend, g -> g.replay(1, 1, true));
        Check.due("the place counts behind the move", 1, bend, g -> g.replay(1, 2, true));
    }

    private static void ends() {
        Ghostracer exact = lap(12, 9, 4, 4, 3, "+==");
        Check.due("just the length", 300, exact, g -> g.time(0, false));
        replayIs("just the length", exact, 3, 12, 4);
        Ghostracer beyond = lap(13, 9, 7, 4, 3, "++++");
        replayIs("beyond the length", beyond, 3, 18, 7);
        Check.due("300 - 500 / 7", 229, beyond, g -> g.time(0, false));
        Ghostracer one = lap(1, 1, 9, 4, 0, "+");
        replayIs("no slide at the end", one, 1, 4, 4);
        Check.due("100 - 300 / 4", 25, one, g -> g.time(0, false));
        Ghostracer waiting = lap(5, 9, 1, 1, 0, "====================" + "-------------------"
                + "====+++++" + "============");
        Check.due("a long lap", 4800, waiting, g -> g.time(0, false));
        Ghostracer sixty = Games.five();
        Games.type(sixty, "====================" + "--------------------" + "===============+====");
        Check.due("just sixty", 6000, sixty, g -> g.tryOut(0, 0));
        Check.due("the lap of sixty is kept", 60, sixty, g -> {
            g.drive(0, 0, 0, -1);
            return g.ticks(0);
        });
        Check.due("its last input", '=', sixty, g -> g.inputAt(0, 59));
    }
}
