/** Promises 28 to 35, and what the terms say of seasons. */
public final class SeasonsTest {
    public static void main(String[] args) {
        round();
        shut();
        lapIn();
        placeIn();
        placesOfSix();
        drop();
        pointsWithDrops();
        pointsFollowTheLaps();
        wins();
        standing();
        standingTies();
        Check.end("SeasonsTest");
    }

    private static Ghostracer tenRounds() {
        Ghostracer game = Games.five();
        for (int i = 0; i < 10; i++) {
            game.round(0);
        }
        Games.drive(game, "+====", 2, -1);
        return game;
    }

    private static void round() {
        Ghostracer game = Games.five();
        game.track();
        for (int i = 0; i < 10; i++) {
            int track = i % 2;
            Check.due("rounds' numbers", i, game, g -> g.round(track));
        }
        Check.due("an eleventh", Check.STATE, game, g -> g.round(0));
        Check.due("the tenth is open still", 9, game, g -> g.shut());
        Check.due("an eleventh though none is open", Check.STATE, game, g -> g.round(0));
        Check.refused("an eleventh", Check.STATE, SeasonsTest::tenRounds, g -> g.round(0));
        Check.refused("track ahead of ten", Check.INDEX, SeasonsTest::tenRounds, g -> g.round(1));
        Check.refused("track below", Check.INDEX, Games::five, g -> g.round(-1));
        Check.refused("track beyond", Check.INDEX, Games::five, g -> g.round(1));
        Check.due("the tenth has its lap", 0, tenRounds(), g -> g.lapIn(9, 2));
        Check.due("the ninth has none", Check.NO_ELEMENT, tenRounds(), g -> g.lapIn(8, 2));
        Ghostracer open = Games.five();
        open.round(0);
        Check.due("a refused round shuts none", Check.INDEX, open, g -> g.round(1));
        Games.drive(open, "+====", 2, -1);
        Check.due("it is open still", 0, open, g -> g.of(0, 'r'));
    }

    private static void shut() {
        Ghostracer game = Games.five();
        Check.refused("none at first", Check.STATE, Games::five, g -> g.shut());
        game.round(0);
        game.round(0);
        Check.due("the last one", 1, game, g -> g.shut());
        Check.due("none is open then", Check.STATE, game, g -> g.shut());
        Games.drive(game, "+====", 0, -1);
        Check.due("laps are of none", -1, game, g -> g.of(0, 'r'));
        Check.due("the next one", 2, game, g -> g.round(0));
        Check.due("shut too", 2, game, g -> g.shut());
    }

    /** A round, 0, in which the driver 1 has two laps of 600 and the driver 4 one of 500. */
    private static Ghostracer oneRound() {
        Ghostracer game = Games.five();
        Games.drive(game, "+====", 1, -1);
        game.round(0);
        Games.drive(game, "=+====", 1, -1);
        Games.drive(game, "=+====", 1, -1);
        Games.drive(game, "+====", 4, -1);
        game.shut();
        Games.drive(game, "+====", 5, -1);
        return game;
    }

    private static void refusedBeyond(String what, AskedInRound asked) {
        Check.Setup one = SeasonsTest::oneRound;
        Check.refused(what + ", round below", Check.INDEX, one, g -> asked.answer(g, -1, 4));
        Check.refused(what + ", round beyond", Check.INDEX, one, g -> asked.answer(g, 1, 4));
        Check.refused(what + ", driver below", Check.INDEX, one, g -> asked.answer(g, 0, -1));
        Check.refused(what + ", driver beyond", Check.INDEX, one, g -> asked.answer(g, 0, 6));
        Check.refused(what + ", round ahead of lap", Check.INDEX, one, g -> asked.answer(g, 1, 0));
        Check.refused(what + ", no lap", Check.NO_ELEMENT, one, g -> asked.answer(g, 0, 0));
        Check.refused(what + ", behind the round", Check.NO_ELEMENT, one,
                g -> asked.answer(g, 0, 5));
    }

    /** lapIn or placeIn. */
    private interface AskedInRound {
        int answer(Ghostracer game, int round, int driver);
    }

    private static void lapIn() {
        Ghostracer game = oneRound();
        Check.due("of two the lower number", 1, game, g -> g.lapIn(0, 1));
        Check.due("another driver", 3, game, g -> g.lapIn(0, 4));
        game.penalty(1, 1);
        Check.due("the one that counts with less", 2, game, g -> g.lapIn(0, 1));
        game.strike(2);
        Check.due("the one that stands", 1, game, g -> g.lapIn(0, 1));
        game.strike(1);
        Check.due("none stands", Check.NO_ELEMENT, game, g -> g.lapIn(0, 1));
        game.giveBack(2);
        Check.due("given back", 2, game, g -> g.lapIn(0, 1));
        refusedBeyond("lapIn", (g, round, driver) -> g.lapIn(round, driver));
    }

    private static void placeIn() {
        Ghostracer game = oneRound();
        Check.due("the least", 1, game, g -> g.placeIn(0, 4));
        Check.due("the next", 2, game, g -> g.placeIn(0, 1));
        game.penalty(3, 100);
        Check.due("as much, the lower number of the lap", 1, game, g -> g.placeIn(0, 1));
        Check.due("as much, the higher number of the lap", 2, game, g -> g.placeIn(0, 4));
        game.penalty(1, 500);
        game.penalty(2, 200);
        Check.due("the penalty counts", 1, game, g -> g.placeIn(0, 4));
        game.strike(3);
        Check.due("alone", 1, game, g -> g.placeIn(0, 1));
        Check.due("struck out", Check.NO_ELEMENT, game, g -> g.placeIn(0, 4));
        refusedBeyond("placeIn", (g, round, driver) -> g.placeIn(round, driver));
        Ghostracer tied = Games.five();
        tied.round(0);
        Games.drive(tied, "+====", 5, -1);
        Games.drive(tied, "+====", 0, -1);
        Check.due("a tie is by the laps, not by the drivers", 1, tied, g -> g.placeIn(0, 5));
        Check.due("the later lap is behind", 2, tied, g -> g.placeIn(0, 0));
    }

    /** All six drivers: 5 is the fastest, then 3, 1, 0, 2 and 4. */
    private static Ghostracer six() {
        Ghostracer game = Games.five();
        game.round(0);
        Games.drive(game, "===+====", 0, -1);
        Games.drive(game, "==+====", 1, -1);
        Games.drive(game, "====+====", 2, -1);
        Games.drive(game, "=+====", 3, -1);
        Games.drive(game, "=====+====", 4, -1);
        Games.drive(game, "+====", 5, -1);
        return game;
    }

    private static void placesOfSix() {
        Ghostracer game = six();
        int[] order = {5, 3, 1, 0, 2, 4};
        int[] points = {10, 8, 6, 5, 4, 3};
        for (int i = 0; i < 6; i++) {
            int place = i;
            Check.due("place of " + order[i], i + 1, game, g -> g.placeIn(0, order[place]));
            Check.due("points of " + order[i], points[i], game, g -> g.points(order[place]));
            Check.due("wins of " + order[i], i == 0 ? 1 : 0, game, g -> g.wins(order[place]));
            Check.due("standing at " + i, order[i], game, g -> g.standing(place));
        }
    }

    private static void drop() {
        Ghostracer game = oneRound();
        Check.due("none before", 0, game, g -> g.drop(3));
        Check.due("three before", 3, game, g -> g.drop(1));
        Check.due("one before", 1, game, g -> g.drop(1));
        Check.due("one still", 1, game, g -> g.drop(0));
        Check.refused("-1", Check.ARGUMENT, SeasonsTest::oneRound, g -> g.drop(-1));
        Check.refused("4", Check.ARGUMENT, SeasonsTest::oneRound, g -> g.drop(4));
        Check.due("a refused number is not told", 0, game, g -> {
            Check.answerOf(g, h -> h.drop(4));
            return g.drop(0);
        });
    }

    /** Four rounds: the driver 0 has 8, 10, no lap and 6; the driver 1 has 10, no lap, 10 and 8. */
    private static Ghostracer fourRounds() {
        Ghostracer game = Games.five();
        game.round(0);
        Games.drive(game, "=+====", 0, -1);
        Games.drive(game, "+====", 1, -1);
        game.round(0);
        Games.drive(game, "+====", 0, -1);
        game.round(0);
        Games.drive(game, "+====", 1, -1);
        Games.drive(game, "=+====", 3, -1);
        game.round(0);
        Games.drive(game, "==+====", 0, -1);
        Games.drive(game, "=+====", 1, -1);
        Games.drive(game, "+====", 2, -1);
        return game;
    }

    private static void pointsWithDrops() {
        int[][] due = {{24, 28, 10, 8}, {24, 28, 10, 8}, {18, 20, 10, 8}, {10, 10, 10, 8}};
        for (int i = 0; i < 4; i++) {
            Ghostracer game = fourRounds();
            game.drop(i);
            for (int j = 0; j < 4; j++) {
                int driver = j;
                Check.due("points of " + j + " with " + i + " dropped", due[i][j], game,
                        g -> g.points(driver));
            }
            Check.due("a driver without laps", 0, game, g -> g.points(4));
            Check.due("wins stay", 2, game, g -> g.wins(1));
        }
        Ghostracer game = fourRounds();
        game.round(0);
        game.drop(1);
        Check.due("a round without laps is dropped first", 24, game, g -> g.points(0));
        game.drop(2);
        Check.due("it and another", 24, game, g -> g.points(0));
        game.drop(3);
        Check.due("it and two others", 18, game, g -> g.points(0));
        Ghostracer one = oneRound();
        for (int i = 1; i <= 3; i++) {
            one.drop(i);
            Check.due("no more rounds than are dropped", 0, one, g -> g.points(4));
        }
        Ghostracer two = oneRound();
        two.round(0);
        Games.drive(two, "+====", 4, -1);
        two.drop(1);
        Check.due("one of two is dropped", 10, two, g -> g.points(4));
        two.drop(2);
        Check.due("two of two are dropped", 0, two, g -> g.points(4));
        two.drop(0);
        Check.due("none is dropped any more", 20, two, g -> g.points(4));
        Check.refused("driver below", Check.INDEX, SeasonsTest::oneRound, g -> g.points(-1));
        Check.refused("driver beyond", Check.INDEX, SeasonsTest::oneRound, g -> g.points(6));
    }

    private static void pointsFollowTheLaps() {
        Ghostracer game = six();
        game.strike(5);
        Check.due("struck out", 0, game, g -> g.points(5));
        Check.due("the second is the first", 10, game, g -> g.points(3));
        Check.due("the last moves up", 4, game, g -> g.points(4));
        game.giveBack(5);
        Check.due("given back", 10, game, g -> g.points(5));
        game.penalty(5, 9999);
        Check.due("punished", 3, game, g -> g.points(5));
        Check.due("an open round counts", 10, game, g -> g.points(3));
        game.shut();
        Check.due("a shut round counts as well", 10, game, g -> g.points(3));
        Games.drive(game, "+====", 4, -1);
        Check.due("laps of no round bring nothing", 4, game, g -> g.points(4));
    }

    private static void wins() {
        Ghostracer game = fourRounds();
        int[] due = {1, 2, 1, 0, 0, 0};
        for (int i = 0; i < 6; i++) {
            int driver = i;
            Check.due("wins of " + i, due[i], game, g -> g.wins(driver));
        }
        game.penalty(1, 101);
        Check.due("a win that is lost", 1, game, g -> g.wins(1));
        Check.due("a win that is got", 2, game, g -> g.wins(0));
        Check.refused("driver below", Check.INDEX, SeasonsTest::oneRound, g -> g.wins(-1));
        Check.refused("driver beyond", Check.INDEX, SeasonsTest::oneRound, g -> g.wins(6));
    }

    private static void standing() {
        Ghostracer game = new Ghostracer();
        for (int i = 0; i < 6; i++) {
            int place = i;
            Check.due("by numbers", i, game, g -> g.standing(place));
        }
        Check.refused("place below", Check.INDEX, SeasonsTest::oneRound, g -> g.standing(-1));
        Check.refused("place beyond", Check.INDEX, SeasonsTest::oneRound, g -> g.standing(6));
        Ghostracer four = fourRounds();
        int[] order = {1, 0, 2, 3, 4, 5};
        for (int i = 0; i < 6; i++) {
            int place = i;
            Check.due("by points, at " + i, order[i], four, g -> g.standing(place));
        }
        four.drop(3);
        Check.due("by points less those that are dropped, then by wins", 1, four,
                g -> g.standing(0));
        Check.due("as many points, fewer wins, the lower number", 0, four, g -> g.standing(1));
        Check.due("as many points, fewer wins, the higher number", 2, four, g -> g.standing(2));
    }

    /**
     * The driver 0 has twice the second place and once the fifth, 20 points without a win; the
     * driver 3 has 10 and 10, two wins.
     */
    private static void standingTies() {
        Ghostracer game = Games.five();
        game.round(0);
        Games.drive(game, "+====", 3, -1);
        Games.drive(game, "+====", 0, -1);
        game.round(0);
        Games.drive(game, "+====", 3, -1);
        Games.drive(game, "+====", 0, -1);
        game.round(0);
        Games.drive(game, "+====", 1, -1);
        Games.drive(game, "+====", 2, -1);
        Games.drive(game, "+====", 4, -1);
        Games.drive(game, "+====", 5, -1);
        Games.drive(game, "+====", 0, -1);
        Check.due("points of 0", 20, game, g -> g.points(0));
        Check.due("points of 3", 20, game, g -> g.points(3));
        int[] order = {3, 0, 1, 2, 4, 5};
        for (int i = 0; i < 6; i++) {
            int place = i;
            Check.due("wins decide, at " + i, order[i], game, g -> g.standing(place));
        }
    }
}
