/** Games to begin a test with. */
final class Games {
    private Games() {
    }

    /** The track and the car of the document's first example. */
    static Ghostracer bend() {
        Ghostracer game = new Ghostracer();
        game.track();
        game.stretch(0, 10, 4);
        game.stretch(0, 6, 2);
        game.car(6, 2, 1);
        return game;
    }

    /**
     * A track of five places and a car of the speed 1, so that any five inputs that begin with a
     * '+' and have no '-' are a lap of 500 hundredths, and each '=' ahead of them is a tick more.
     */
    static Ghostracer five() {
        Ghostracer game = new Ghostracer();
        game.track();
        game.stretch(0, 5, 9);
        game.car(1, 1, 0);
        return game;
    }

    /** Types a word, each run of at most twenty like inputs by one call. */
    static Ghostracer type(Ghostracer game, String word) {
        int from = 0;
        for (int i = 1; i <= word.length(); i++) {
            if (i == word.length() || word.charAt(i) != word.charAt(from) || i - from == 20) {
                game.type(word.charAt(from), i - from);
                from = i;
            }
        }
        return game;
    }

    /** Drives a word on the track 0 with the car 0. */
    static int drive(Ghostracer game, String word, int driver, int ghost) {
        type(game, word);
        return game.drive(driver, 0, 0, ghost);
    }

    /** A chain of six laps, each with the one before as its ghost, up to the depth 5. */
    static Ghostracer chain() {
        Ghostracer game = five();
        drive(game, "+====", 0, -1);
        drive(game, "++===", 1, 0);
        drive(game, "+++==", 2, 1);
        drive(game, "++++=", 3, 2);
        drive(game, "+++++", 4, 3);
        drive(game, "=+====", 5, 4);
        return game;
    }

    static Ghostracer fullOfLaps() {
        Ghostracer game = five();
        for (int i = 0; i < 30; i++) {
            drive(game, "+++++", i % 6, -1);
        }
        return game;
    }

    /**
     * Something of everything: two tracks with laps and one without stretches, two cars, a chain of
     * which the third lap is struck out, a penalty, a round that is shut and one that is open, a
     * round that is dropped, and four inputs typed, too few for a lap on the track 0.
     */
    static Ghostracer busy() {
        Ghostracer game = five();
        game.track();
        game.stretch(1, 4, 9);
        game.stretch(1, 3, 2);
        game.track();
        game.car(9, 4, 3);
        game.round(0);
        drive(game, "+====", 0, -1);
        drive(game, "++===", 1, 0);
        drive(game, "=+====", 2, 1);
        drive(game, "=++===", 0, 2);
        game.strike(2);
        game.penalty(1, 50);
        game.round(1);
        type(game, "++++");
        game.drive(3, 1, 1, -1);
        game.drop(1);
        return type(game, "+===");
    }

    /**
     * Thirty laps in ten rounds, each with a tick more than the one before, which is its ghost: the
     * lap n has 5 + n inputs, the driver n % 6, the round n / 3 and the depth n % 6.
     */
    static Ghostracer ladder() {
        Ghostracer game = five();
        for (int i = 0; i < 30; i++) {
            if (i % 3 == 0) {
                game.round(0);
            }
            drive(game, "=".repeat(i) + "+====", i % 6, i - 1);
        }
        return game;
    }

    /** Four tracks without stretches, and a car that slides nowhere. */
    static Ghostracer fourTracks() {
        Ghostracer game = new Ghostracer();
        game.car(9, 4, 3);
        for (int i = 0; i < 4; i++) {
            game.track();
        }
        return game;
    }

    static Ghostracer fourCars() {
        Ghostracer game = five();
        for (int i = 0; i < 3; i++) {
            game.car(9, 4, 3);
        }
        return game;
    }

    /** A track that could be driven on, and the inputs for it, but no car. */
    static Ghostracer noCar() {
        Ghostracer game = new Ghostracer();
        game.track();
        game.stretch(0, 1, 1);
        return type(game, "+");
    }

    /** The track of so many places, all with the limit 9, of as few stretches as can be. */
    static void road(Ghostracer game, int track, int length) {
        for (int left = length; left > 0; left -= 30) {
            game.stretch(track, Math.min(left, 30), 9);
        }
    }

    /** A lap on a track of so many places that slides nowhere, by a car of its own. */
    static Ghostracer lapOn(int length, int top, int pull, String word) {
        Ghostracer game = new Ghostracer();
        game.track();
        road(game, 0, length);
        game.car(top, pull, 0);
        drive(game, word, 0, -1);
        return game;
    }
}
