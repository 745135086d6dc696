/** Games to begin a test with. */
final class Games {
    private Games() {
    }

    /** The track and the car of the document's first example. */
    static Ghostracer bend() {
        Ghostracer game = new Ghostracer();
        game.track();
        game.stretch(0, 10, 4);
        game.stretch(0, 6, 2);
        game.car(6, 2, 1);
        return game;
    }

    /**
     * A track of five places and a car of the speed 1, so that any five inputs that begin with a
     * '+' and have no '-' are a lap of 500 hundredths, and each '=' ahead of them is a tick more.
     */
    static Ghostracer five() {
        Ghostracer game = new Ghostracer();
        game.track();
        game.stretch(0, 5, 9);
        game.car(1, 1, 0);
        return game;
    }

    /** Types a word, each run of at most twenty like inputs by one call. */
    static Ghostracer type(Ghostracer game, String word) {
        int from = 0;
        for (int i = 1; i <= word.length(); i++) {
            if (i == word.length() || word.charAt(i) != word.charAt(from) || i - from == 20) {
                game.type(word.charAt(from), i - from);
                from = i;
            }
        }
        return game;
    }

    /** Drives a word on the track 0 with the car 0. */
    static int drive(Ghostracer game, String word, int driver, int ghost) {
        type(game, word);
        return game.drive(driver, 0, 0, ghost);
    }

    /** A chain of six laps, each with the one before as its ghost, up to the depth 5. */
    static Ghostracer chain() {
        Ghostracer game = five();
        drive(game, "+====", 0, -1);
        drive(game, "++===", 1, 0);
        drive(game, "+++==", 2, 1);
        drive(game, "++++=", 3, 2);
        drive(game, "+++++", 4, 3);
        drive(game, "=+====", 5, 4);
        return game;
    }

    static Ghostracer fullOfLaps() {
        Ghostracer game = five();
        for (int i = 0; i < 30; i++) {
            drive(game, "+++++", i % 6, -1);
        }
        return game;
    }
}
