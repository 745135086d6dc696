/** A game that has all that it may have: every call is asked at the edge of its rows. */
public final class FullTest {
    private static final String WAITING = "=".repeat(55);

    public static void main(String[] args) {
        tracksAndCars();
        laps();
        steward();
        seasons();
        figures();
        Check.end("FullTest");
    }

    /**
     * Thirty laps of sixty inputs, all alike, each against the one before, three in each of the
     * ten rounds, by the drivers 0, 1 and 2 and by the drivers 3, 4 and 5 in turn.
     */
    private static Ghostracer full() {
        Ghostracer game = Games.five();
        for (int i = 0; i < 30; i++) {
            if (i % 3 == 0) {
                game.round(0);
            }
            Games.drive(game, WAITING + "+====", i % 6, i - 1);
        }
        return game;
    }

    private static void tracksAndCars() {
        Ghostracer game = new Ghostracer();
        for (int track = 0; track < 4; track++) {
            game.track();
            game.car(9, 4, 3);
            for (int i = 0; i < 12; i++) {
                game.stretch(track, 30, 9 - i % 9);
            }
        }
        Check.due("the longest track", 360, game, g -> g.lengthOf(3));
        Check.due("its last place", 7, game, g -> g.limitAt(3, 359));
        Check.due("behind its last place", Check.NO_ELEMENT, game, g -> g.limitAt(3, 360));
        Games.type(game, "+".repeat(60));
        Check.due("the last car on the last track", true, game, g -> g.tryOut(3, 3) > 4000);
        Check.due("the lap", 0, game, g -> g.drive(5, 3, 3, -1));
        Check.due("a sound one", true, game, g -> g.isSound());
    }

    private static void laps() {
        Ghostracer game = full();
        Check.due("laps", 30, game, g -> g.laps());
        Check.due("time", 6000, game, g -> g.time(29, true));
        Check.due("ticks", 60, game, g -> g.ticks(29));
        Check.due("the last input", '=', game, g -> g.inputAt(29, 59));
        Check.due("behind the last input", Check.NO_ELEMENT, game, g -> g.inputAt(29, 60));
        Check.due("where it was at the end", 5, game, g -> g.replay(29, 60, false));
        Check.due("behind the end", Check.NO_ELEMENT, game, g -> g.replay(29, 61, false));
        Check.due("beats", false, game, g -> g.beats(29));
        Check.due("least", 0, game, g -> g.least(0));
        for (int i = 0; i < 30; i++) {
            int lap = i;
            Check.due("depth of " + i, i % 6, game, g -> g.depth(lap));
            Check.due("parts of " + i, i % 6 == 0 ? 60 : 0, game, g -> g.parts(lap));
            Check.due("resting on " + i, 5 - i % 6, game, g -> g.resting(lap));
        }
        Check.due("no thirty-first", Check.INDEX, game, g -> g.resting(30));
    }

    private static void steward() {
        Ghostracer game = full();
        Check.due("strike the last", 0, game, g -> g.strike(29));
        Check.due("give the last back", 30, game, g -> g.giveBack(29));
        Check.due("strike the base of the last", 1, game, g -> g.strike(28));
        Check.due("the depth of the last", 4, game, g -> g.depth(29));
        Ghostracer emptied = full();
        for (int i = 29; i >= 0; i--) {
            int lap = i;
            Check.due("strike " + i + ", those behind it were moved to it", 5 - i % 6, emptied,
                    g -> g.strike(lap));
        }
        Check.due("none stands", Check.NO_ELEMENT, emptied, g -> g.least(0));
        Check.due("none counts", Check.NO_ELEMENT, emptied, g -> g.meanTime());
        Check.due("all are whole", 1800, emptied, g -> g.stored());
        Check.due("one stands", 1, emptied, g -> g.giveBack(29));
        Check.due("it is the least", 29, emptied, g -> g.least(0));
    }

    private static void seasons() {
        Ghostracer game = full();
        Check.due("no eleventh round", Check.STATE, game, g -> g.round(0));
        Check.due("the last lap of the last round", 29, game, g -> g.lapIn(9, 5));
        Check.due("the last place", 3, game, g -> g.placeIn(9, 5));
        Check.due("no lap in the last round", Check.NO_ELEMENT, game, g -> g.placeIn(9, 0));
        int[] points = {50, 40, 30, 50, 40, 30};
        int[] wins = {5, 0, 0, 5, 0, 0};
        int[] order = {0, 3, 1, 4, 2, 5};
        for (int dropped = 0; dropped <= 3; dropped++) {
            game.drop(dropped);
            for (int i = 0; i < 6; i++) {
                int number = i;
                Check.due("points of " + i, points[i], game, g -> g.points(number));
                Check.due("wins of " + i, wins[i], game, g -> g.wins(number));
                Check.due("standing at " + i, order[i], game, g -> g.standing(number));
            }
        }
        Check.due("the tenth is open", 9, game, g -> g.shut());
    }

    private static void figures() {
        Ghostracer game = full();
        long sum = 7;
        for (int i = 0; i < 30; i++) {
            sum = 31 * sum + 6000 + (i % 6 == 0 ? 60 : 0) + 1;
        }
        Check.due("checksum", sum, game, g -> g.checksum());
        Check.due("stored", 300, game, g -> g.stored());
        Check.due("shareStored", 300.0f / 1800.0f, game, g -> g.shareStored());
        Check.due("meanTime", 6000.0, game, g -> g.meanTime());
        Check.due("isSound", true, game, g -> g.isSound());
    }
}
