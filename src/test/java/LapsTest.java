/** Promises 11 to 18, and what the terms say of laps. */
public final class LapsTest {
    public static void main(String[] args) {
        laps();
        time();
        ticks();
        inputAt();
        replay();
        of();
        roundOfLap();
        beats();
        least();
        Check.end("LapsTest");
    }

    private static Ghostracer twoLaps() {
        Ghostracer game = Games.bend();
        game.round(0);
        Games.drive(game, "+++===", 3, -1);
        Games.drive(game, "++==========", 1, 0);
        return game;
    }

    private static void refusedBeyond(String what, Check.Call below, Check.Call beyond) {
        Check.refused(what + ", lap below", Check.INDEX, LapsTest::twoLaps, below);
        Check.refused(what + ", lap beyond", Check.INDEX, LapsTest::twoLaps, beyond);
    }

    private static void laps() {
        Ghostracer game = twoLaps();
        Check.due("two", 2, game, g -> g.laps());
        Check.due("with one that is struck out", 2, game, g -> {
            g.strike(0);
            return g.laps();
        });
        Check.due("thirty", 30, Games.fullOfLaps(), g -> g.laps());
        Check.due("a trial is no lap", 2, Games.type(game, "+++==="), g -> {
            g.tryOut(0, 0);
            return g.laps();
        });
    }

    private static void time() {
        Ghostracer game = twoLaps();
        Check.due("without penalty", 434, game, g -> g.time(0, false));
        Check.due("a penalty of 0", 434, game, g -> g.time(0, true));
        Check.due("the second", 600, game, g -> g.time(1, true));
        game.penalty(0, 9999);
        Check.due("time stays", 434, game, g -> g.time(0, false));
        Check.due("counted with the penalty", 10433, game, g -> g.time(0, true));
        Check.due("the second is not punished", 600, game, g -> g.time(1, true));
        game.strike(0);
        Check.due("struck out it has its time still", 434, game, g -> g.time(0, false));
        Check.due("struck out it counts with its penalty", 10433, game, g -> g.time(0, true));
        refusedBeyond("time", g -> g.time(-1, false), g -> g.time(2, true));
        Check.due("the last of thirty", 500, Games.fullOfLaps(), g -> g.time(29, true));
        Check.due("behind the last of thirty", Check.INDEX, Games.fullOfLaps(),
                g -> g.time(30, true));
    }

    private static void ticks() {
        Ghostracer game = twoLaps();
        Check.due("those behind the end are no part", 5, game, g -> g.ticks(0));
        Check.due("the second", 6, game, g -> g.ticks(1));
        refusedBeyond("ticks", g -> g.ticks(-1), g -> g.ticks(2));
    }

    private static void inputAt() {
        Ghostracer game = twoLaps();
        String word = "+++==";
        for (int i = 0; i < 5; i++) {
            int tick = i;
            Check.due("input " + i, word.charAt(i), game, g -> g.inputAt(0, tick));
        }
        Check.due("of the second", '=', game, g -> g.inputAt(1, 2));
        Ghostracer braked = Games.five();
        Games.drive(braked, "-+====", 0, -1);
        Check.due("a '-'", '-', braked, g -> g.inputAt(0, 0));
        Check.due("typing changes no lap", '=', Games.type(game, "-----"), g -> g.inputAt(0, 4));
        refusedBeyond("inputAt", g -> g.inputAt(-1, 0), g -> g.inputAt(2, 0));
        Check.Setup two = LapsTest::twoLaps;
        Check.refused("tick below", Check.NO_ELEMENT, two, g -> g.inputAt(0, -1));
        Check.refused("tick beyond", Check.NO_ELEMENT, two, g -> g.inputAt(0, 5));
        Check.refused("tick far beyond", Check.NO_ELEMENT, two, g -> g.inputAt(0, 1 << 30));
        Check.refused("lap ahead of tick", Check.INDEX, two, g -> g.inputAt(2, -1));
    }

    private static void replay() {
        Ghostracer game = twoLaps();
        int[] places = {0, 2, 6, 12, 15, 18};
        int[] speeds = {0, 2, 4, 3, 3, 3};
        for (int i = 0; i < 6; i++) {
            int tick = i;
            Check.due("place " + i, places[i], game, g -> g.replay(0, tick, false));
            Check.due("speed " + i, speeds[i], game, g -> g.replay(0, tick, true));
        }
        Check.due("of the second", 16, game, g -> g.replay(1, 6, false));
        Check.due("what is typed stays", 0, game, g -> g.wipe());
        refusedBeyond("replay", g -> g.replay(-1, 0, false), g -> g.replay(2, 0, true));
        Check.Setup two = LapsTest::twoLaps;
        Check.refused("tick below", Check.NO_ELEMENT, two, g -> g.replay(0, -1, true));
        Check.refused("tick beyond", Check.NO_ELEMENT, two, g -> g.replay(0, 6, false));
        Check.refused("lap ahead of tick", Check.INDEX, two, g -> g.replay(2, -1, false));
    }

    private static void of() {
        Ghostracer game = Games.bend();
        game.track();
        game.stretch(1, 5, 9);
        game.car(1, 1, 0);
        game.car(9, 4, 3);
        game.round(0);
        game.round(1);
        Games.type(game, "+====");
        game.drive(5, 1, 1, -1);
        Games.type(game, "+====");
        game.drive(4, 1, 2, 0);
        Check.due("driver", 4, game, g -> g.of(1, 'd'));
        Check.due("track", 1, game, g -> g.of(1, 't'));
        Check.due("car", 2, game, g -> g.of(1, 'c'));
        Check.due("ghost", 0, game, g -> g.of(1, 'g'));
        Check.due("no ghost", -1, game, g -> g.of(0, 'g'));
        Check.due("round", 1, game, g -> g.of(1, 'r'));
        Check.due("driver of the first", 5, game, g -> g.of(0, 'd'));
        Check.due("car of the first", 1, game, g -> g.of(0, 'c'));
        game.strike(0);
        Check.due("the ghost stays one that was struck out", 0, game, g -> g.of(1, 'g'));
        refusedBeyond("of", g -> g.of(-1, 'd'), g -> g.of(2, 'd'));
        for (char what : new char[] {'D', 'x', 'b', 0, ' ', 0xffff}) {
            Check.refused("what " + (int) what, Check.ARGUMENT, LapsTest::twoLaps,
                    g -> g.of(1, what));
        }
        Check.refused("lap ahead of what", Check.INDEX, LapsTest::twoLaps, g -> g.of(2, 'x'));
    }

    private static void roundOfLap() {
        Ghostracer game = Games.five();
        game.track();
        game.stretch(1, 1, 9);
        Games.drive(game, "+====", 0, -1);
        Check.due("ahead of any round", -1, game, g -> g.of(0, 'r'));
        game.round(1);
        Games.drive(game, "+====", 0, -1);
        Check.due("a round on another track", -1, game, g -> g.of(1, 'r'));
        game.round(0);
        Games.drive(game, "+====", 0, -1);
        Check.due("a round on this track", 1, game, g -> g.of(2, 'r'));
        game.round(1);
        Games.drive(game, "+====", 0, -1);
        Check.due("shut by another round", -1, game, g -> g.of(3, 'r'));
        game.round(0);
        Games.drive(game, "+====", 0, -1);
        Check.due("the next one on this track", 3, game, g -> g.of(4, 'r'));
        game.shut();
        Games.drive(game, "+====", 0, -1);
        Check.due("shut", -1, game, g -> g.of(5, 'r'));
        Check.due("a round that is over stays the lap's", 1, game, g -> g.of(2, 'r'));
    }

    private static void beats() {
        Ghostracer game = Games.five();
        Games.drive(game, "=+====", 0, -1);
        Games.drive(game, "+====", 1, 0);
        Games.drive(game, "=+====", 2, 0);
        Games.drive(game, "==+====", 3, 0);
        Check.due("less", true, game, g -> g.beats(1));
        Check.due("as much", false, game, g -> g.beats(2));
        Check.due("more", false, game, g -> g.beats(3));
        game.penalty(1, 99);
        Check.due("less with its penalty", true, game, g -> g.beats(1));
        game.penalty(1, 100);
        Check.due("as much with its penalty", false, game, g -> g.beats(1));
        game.penalty(0, 101);
        Check.due("the ghost's penalty", true, game, g -> g.beats(3));
        game.strike(0);
        Check.due("the ghost is struck out", true, game, g -> g.beats(3));
        game.strike(3);
        Check.due("both are struck out", true, game, g -> g.beats(3));
        game.penalty(0, 0);
        Check.due("penalties as they are", false, game, g -> g.beats(3));
        game.giveBack(0);
        Check.due("only it is struck out", false, game, g -> g.beats(3));
        Check.due("a ghost that is no base", true, Games.chain(), g -> {
            Games.drive(g, "+====", 0, 5);
            return g.beats(6);
        });
        refusedBeyond("beats", g -> g.beats(-1), g -> g.beats(2));
        Check.refused("no ghost", Check.NO_ELEMENT, LapsTest::twoLaps, g -> g.beats(0));
    }

    private static void least() {
        Ghostracer game = Games.five();
        game.track();
        game.stretch(1, 4, 9);
        game.track();
        Games.drive(game, "=+====", 0, -1);
        Games.drive(game, "+====", 1, -1);
        Games.drive(game, "+====", 2, -1);
        Games.type(game, "+===");
        game.drive(3, 1, 0, -1);
        Check.due("of several the lower number", 1, game, g -> g.least(0));
        Check.due("another track", 3, game, g -> g.least(1));
        Check.due("a track without laps", Check.NO_ELEMENT, game, g -> g.least(2));
        game.penalty(1, 1);
        Check.due("the penalty counts", 2, game, g -> g.least(0));
        game.strike(2);
        Check.due("one that stands", 1, game, g -> g.least(0));
        game.penalty(1, 101);
        Check.due("the slow one", 0, game, g -> g.least(0));
        game.strike(1);
        game.strike(0);
        Check.due("none stands", Check.NO_ELEMENT, game, g -> g.least(0));
        Check.due("the other track has its own", 3, game, g -> g.least(1));
        Check.refused("track below", Check.INDEX, LapsTest::twoLaps, g -> g.least(-1));
        Check.refused("track beyond", Check.INDEX, LapsTest::twoLaps, g -> g.least(1));
        Check.refused("no lap", Check.NO_ELEMENT, Games::bend, g -> g.least(0));
    }
}
