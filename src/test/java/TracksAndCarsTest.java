/** Promises 1 to 6. */
public final class TracksAndCarsTest {
    public static void main(String[] args) {
        newObject();
        track();
        stretch();
        stretchIsRefused();
        car();
        lengthOf();
        limitAt();
        Check.end("TracksAndCarsTest");
    }

    private static void newObject() {
        Ghostracer game = new Ghostracer();
        Check.due("no track", Check.INDEX, game, g -> g.lengthOf(0));
        Check.due("no lap", 0, game, g -> g.laps());
        Check.due("nothing typed", 0, game, g -> g.wipe());
        Check.due("nothing stored", 0, game, g -> g.stored());
        Check.due("no round", Check.INDEX, game, g -> g.lapIn(0, 0));
        Check.due("no round is open", Check.STATE, game, g -> g.shut());
        Check.due("no points", 0, game, g -> g.points(5));
        Check.due("the standing is by numbers", 5, game, g -> g.standing(5));
        Check.due("no rounds are dropped", 0, game, g -> g.drop(0));
        Check.due("a lapless game is sound", true, game, g -> g.isSound());
        Check.due("no car", Check.INDEX, game, g -> {
            g.track();
            g.stretch(0, 1, 1);
            g.type('+', 1);
            return g.tryOut(0, 0);
        });
        Check.due("another object has its own tracks", Check.INDEX, new Ghostracer(),
                g -> g.lengthOf(0));
    }

    private static void track() {
        Ghostracer game = new Ghostracer();
        for (int i = 0; i < 4; i++) {
            Check.due("track", i, game, g -> g.track());
            int number = i;
            Check.due("a new track is empty", 0, game, g -> g.lengthOf(number));
        }
        Check.refused("a fifth track", Check.STATE, Games::fourTracks, g -> g.track());
    }

    private static void stretch() {
        Ghostracer game = Games.fourTracks();
        Check.due("the shortest and slowest", 1, game, g -> g.stretch(3, 1, 1));
        Check.due("the longest and fastest", 31, game, g -> g.stretch(3, 30, 9));
        Check.due("behind the others", 36, game, g -> g.stretch(3, 5, 4));
        Check.due("another track", 7, game, g -> g.stretch(0, 7, 2));
        Check.due("limit of the first", 1, game, g -> g.limitAt(3, 0));
        Check.due("limit of the second", 9, game, g -> g.limitAt(3, 30));
        Check.due("limit of the third", 4, game, g -> g.limitAt(3, 31));
        for (int i = 1; i <= 12; i++) {
            Check.due("twelve stretches", 30 * i, game, g -> g.stretch(1, 30, 5));
        }
        Check.due("the thirteenth", Check.STATE, game, g -> g.stretch(1, 30, 5));
        Check.due("laps elsewhere bar none", 37, driven(), g -> {
            g.track();
            g.stretch(1, 30, 1);
            return g.stretch(1, 7, 1);
        });
    }

    private static Ghostracer driven() {
        Ghostracer game = Games.bend();
        Games.drive(game, "+++===", 0, -1);
        return game;
    }

    private static Ghostracer twelveStretches() {
        Ghostracer game = Games.five();
        for (int i = 0; i < 11; i++) {
            game.stretch(0, 2, 3);
        }
        return game;
    }

    private static Ghostracer twelveStretchesDriven() {
        Ghostracer game = twelveStretches();
        game.type('+', 20);
        game.type('+', 20);
        game.drive(0, 0, 0, -1);
        return game;
    }

    private static Ghostracer drivenAndStruck() {
        Ghostracer game = driven();
        game.strike(0);
        return game;
    }

    private static void stretchIsRefused() {
        Check.Setup bend = Games::bend;
        Check.refused("track below", Check.INDEX, bend, g -> g.stretch(-1, 5, 5));
        Check.refused("track beyond", Check.INDEX, bend, g -> g.stretch(1, 5, 5));
        Check.refused("track far beyond", Check.INDEX, bend, g -> g.stretch(1 << 30, 5, 5));
        Check.refused("track ahead of numbers", Check.INDEX, bend, g -> g.stretch(1, 0, 0));
        Check.refused("length 0", Check.ARGUMENT, bend, g -> g.stretch(0, 0, 5));
        Check.refused("length 31", Check.ARGUMENT, bend, g -> g.stretch(0, 31, 5));
        Check.refused("least length", Check.ARGUMENT, bend,
                g -> g.stretch(0, Integer.MIN_VALUE, 5));
        Check.refused("limit 0", Check.ARGUMENT, bend, g -> g.stretch(0, 5, 0));
        Check.refused("limit 10", Check.ARGUMENT, bend, g -> g.stretch(0, 5, 10));
        Check.Setup driven = TracksAndCarsTest::driven;
        Check.refused("a lap was driven", Check.UNSUPPORTED, driven, g -> g.stretch(0, 5, 5));
        Check.refused("numbers ahead of laps", Check.ARGUMENT, driven, g -> g.stretch(0, 5, 10));
        Check.refused("a lap was driven and struck out", Check.UNSUPPORTED,
                TracksAndCarsTest::drivenAndStruck, g -> g.stretch(0, 5, 5));
        Check.refused("twelve stretches", Check.STATE, TracksAndCarsTest::twelveStretches,
                g -> g.stretch(0, 2, 3));
        Check.refused("numbers ahead of twelve", Check.ARGUMENT,
                TracksAndCarsTest::twelveStretches, g -> g.stretch(0, 2, 0));
        Check.refused("laps ahead of twelve", Check.UNSUPPORTED,
                TracksAndCarsTest::twelveStretchesDriven, g -> g.stretch(0, 2, 3));
    }

    private static void car() {
        Ghostracer game = new Ghostracer();
        Check.due("the least car", 0, game, g -> g.car(1, 1, 0));
        Check.due("the greatest car", 1, game, g -> g.car(9, 4, 3));
        Check.due("a third car", 2, game, g -> g.car(5, 2, 1));
        Check.due("a fourth car", 3, game, g -> g.car(5, 2, 1));
        Check.due("a fifth car", Check.STATE, game, g -> g.car(5, 2, 1));
        game.track();
        game.stretch(0, 9, 9);
        game.type('+', 9);
        Check.due("the least car drives", 900, game, g -> g.tryOut(0, 0));
        Check.due("the greatest car drives", 163, game, g -> g.tryOut(0, 1));
        Check.Setup none = Ghostracer::new;
        Check.refused("top 0", Check.ARGUMENT, none, g -> g.car(0, 1, 0));
        Check.refused("top 10", Check.ARGUMENT, none, g -> g.car(10, 1, 0));
        Check.refused("pull 0", Check.ARGUMENT, none, g -> g.car(1, 0, 0));
        Check.refused("pull 5", Check.ARGUMENT, none, g -> g.car(9, 5, 0));
        Check.refused("grip -1", Check.ARGUMENT, none, g -> g.car(1, 1, -1));
        Check.refused("grip 4", Check.ARGUMENT, none, g -> g.car(9, 4, 4));
        Check.Setup full = Games::fourCars;
        Check.refused("a fifth car", Check.STATE, full, g -> g.car(9, 4, 3));
        Check.refused("numbers ahead of four", Check.ARGUMENT, full, g -> g.car(9, 4, 4));
    }

    private static void lengthOf() {
        Ghostracer game = Games.bend();
        Check.due("length", 16, game, g -> g.lengthOf(0));
        Check.refused("track below", Check.INDEX, Games::bend, g -> g.lengthOf(-1));
        Check.refused("track beyond", Check.INDEX, Games::bend, g -> g.lengthOf(1));
        Check.due("the fourth track", 0, Games.fourTracks(), g -> g.lengthOf(3));
        Check.due("never a fifth track", Check.INDEX, Games.fourTracks(), g -> g.lengthOf(4));
    }

    private static void limitAt() {
        Ghostracer game = Games.bend();
        Check.due("first place", 4, game, g -> g.limitAt(0, 0));
        Check.due("last place of the first stretch", 4, game, g -> g.limitAt(0, 9));
        Check.due("first place of the second stretch", 2, game, g -> g.limitAt(0, 10));
        Check.due("last place", 2, game, g -> g.limitAt(0, 15));
        Check.refused("the length", Check.NO_ELEMENT, Games::bend, g -> g.limitAt(0, 16));
        Check.refused("below the first", Check.NO_ELEMENT, Games::bend, g -> g.limitAt(0, -1));
        Check.refused("track below", Check.INDEX, Games::bend, g -> g.limitAt(-1, 0));
        Check.refused("track ahead of place", Check.INDEX, Games::bend, g -> g.limitAt(1, -1));
        Check.due("an empty track has no place", Check.NO_ELEMENT, Games.fourTracks(),
                g -> g.limitAt(0, 0));
    }
}
