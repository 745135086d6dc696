/** Promises 1 to 6 and the terms of tracks and cars, a check for each sentence's edges. */
final class EdgesOfTracks {
    private static final int LEAST = Sentence.LEAST;
    private static final int MOST = Sentence.MOST;

    private EdgesOfTracks() {
    }

    static void check() {
        Check.parts(EdgesOfTracks::newObjectAnswers, EdgesOfTracks::newObjectRefuses,
                EdgesOfTracks::track, EdgesOfTracks::stretch, EdgesOfTracks::stretchNumbers,
                EdgesOfTracks::stretchDriven, EdgesOfTracks::stretchTwelve, EdgesOfTracks::car,
                EdgesOfTracks::carTop, EdgesOfTracks::carPull, EdgesOfTracks::carGrip,
                EdgesOfTracks::carIsRefused, EdgesOfTracks::lengthOf, EdgesOfTracks::limitAt,
                EdgesOfTracks::termsOfTracks, EdgesOfTracks::termsOfCars);
    }

    private static Sentence creates() {
        return Sentence.of(1, "Creates a game without tracks, cars and laps.");
    }

    private static void newObjectAnswers() {
        Sentence creates = creates();
        creates.due("laps", 0, new Ghostracer(), g -> g.laps());
        creates.due("wipe", 0, new Ghostracer(), g -> g.wipe());
        creates.due("stored", 0, new Ghostracer(), g -> g.stored());
        creates.due("checksum", 7L, new Ghostracer(), g -> g.checksum());
        creates.due("isSound", true, new Ghostracer(), g -> g.isSound());
        creates.due("drop", 0, new Ghostracer(), g -> g.drop(3));
        creates.due("track", 0, new Ghostracer(), g -> g.track());
        creates.due("car", 0, new Ghostracer(), g -> g.car(1, 1, 0));
        creates.due("type", 20, new Ghostracer(), g -> g.type('=', 20));
        creates.dueEach("points", new Ghostracer(), (g, n) -> g.points(n), 0, 0, 0, 0, 0, 0);
        creates.dueEach("wins", new Ghostracer(), (g, n) -> g.wins(n), 0, 0, 0, 0, 0, 0);
        creates.dueEach("standing", new Ghostracer(), (g, n) -> g.standing(n), 0, 1, 2, 3, 4, 5);
        Games.ladder();
        creates.due("behind another object", 0, new Ghostracer(), g -> g.laps());
        creates.due("tracks behind another object", 0, new Ghostracer(), g -> g.track());
    }

    private static void newObjectRefuses() {
        Check.Call[] indexed = {g -> g.stretch(0, 1, 1), g -> g.lengthOf(0), g -> g.limitAt(0, 0),
            g -> g.drive(0, 0, 0, -1), g -> g.tryOut(0, 0), g -> g.time(0, true), g -> g.ticks(0),
            g -> g.inputAt(0, 0), g -> g.replay(0, 0, false), g -> g.of(0, 'd'), g -> g.beats(0),
            g -> g.least(0), g -> g.base(0), g -> g.depth(0), g -> g.parts(0), g -> g.resting(0),
            g -> g.strike(0), g -> g.giveBack(0), g -> g.stands(0), g -> g.penalty(0, 0),
            g -> g.round(0), g -> g.lapIn(0, 0), g -> g.placeIn(0, 0)};
        Sentence creates = creates();
        for (int i = 0; i < indexed.length; i++) {
            creates.refusesBy("call " + i, Check.INDEX, Ghostracer::new, indexed[i]);
        }
        creates.refusesBy("no car", Check.INDEX, Games::noCar, g -> g.tryOut(0, 0));
        creates.refusesBy("no car to drive", Check.INDEX, Games::noCar, g -> g.drive(0, 0, 0, -1));
        creates.refusesBy("shut", Check.STATE, Ghostracer::new, g -> g.shut());
        creates.refusesBy("shareStored", Check.NO_ELEMENT, Ghostracer::new, g -> g.shareStored());
        creates.refusesBy("meanTime", Check.NO_ELEMENT, Ghostracer::new, g -> g.meanTime());
    }

    private static Ghostracer fourTracksFull() {
        Ghostracer game = Games.fourTracks();
        for (int i = 0; i < 4; i++) {
            Games.road(game, i, 360);
        }
        return game;
    }

    private static void track() {
        Sentence adds = Sentence.of(2, "Adds a track without stretches.", "Returns its number.");
        Ghostracer game = new Ghostracer();
        adds.dueEach("the track", game, (g, n) -> g.track(), 0, 1, 2, 3);
        adds.dueEach("the length of", game, (g, n) -> g.lengthOf(n), 0, 0, 0, 0);
        for (int i = 0; i < 4; i++) {
            int track = i;
            adds.due("no place on " + i, Check.NO_ELEMENT, game, g -> g.limitAt(track, 0));
            adds.due("room on " + i, 30, game, g -> g.stretch(track, 30, 9));
        }
        Sentence full = Sentence.thrown(2, Check.STATE, "there are 4");
        full.refuses("a fifth", Games::fourTracks, g -> g.track());
        full.refuses("a fifth, all being full", EdgesOfTracks::fourTracksFull, g -> g.track());
        full.due("a fourth is not refused", 3, Games.busy(), g -> g.track());
        full.due("refused again", Check.STATE, Games.fourTracks(), g -> {
            Check.answerOf(g, h -> h.track());
            return g.track();
        });
    }

    private static Ghostracer tracksAlone() {
        Ghostracer game = new Ghostracer();
        for (int i = 0; i < 4; i++) {
            game.track();
        }
        return game;
    }

    private static void stretch() {
        Sentence adds = Sentence.of(3, "Adds a stretch to a track, behind the others.");
        Ghostracer game = tracksAlone();
        game.stretch(1, 2, 7);
        game.stretch(1, 1, 3);
        game.stretch(1, 3, 5);
        int[] limits = {7, 7, 3, 5, 5, 5};
        for (int i = 0; i < limits.length; i++) {
            int place = i;
            adds.due("the limit at " + i, limits[i], game, g -> g.limitAt(1, place));
        }
        adds.dueEach("only the track that is told, not", game, (g, n) -> g.lengthOf(n), 0, 6, 0, 0);
        Sentence number = Sentence.of(3, "`track`: the number of the track");
        number.due("the smallest", 5, game, g -> g.stretch(0, 5, 5));
        number.due("the largest", 8, game, g -> g.stretch(3, 8, 5));
        number.dueEach("the length of", game, (g, n) -> g.lengthOf(n), 5, 6, 0, 8);
        Sentence returns = Sentence.of(3, "Returns the length of the track.");
        Ghostracer longest = tracksAlone();
        Ghostracer shortest = tracksAlone();
        for (int i = 1; i <= 12; i++) {
            returns.due("the longest", 30 * i, longest, g -> g.stretch(3, 30, 1));
            returns.due("the shortest", i, shortest, g -> g.stretch(0, 1, 9));
        }
        Numbers.noSuchTrack(3, (g, track) -> g.stretch(track, 5, 5));
    }

    private static void stretchNumbers() {
        Sentence length = Sentence.of(3, "`length`: the length, 1 to 30");
        for (int i = 1; i <= 30; i++) {
            int number = i;
            Ghostracer game = tracksAlone();
            length.due("the length " + i, i, game, g -> g.stretch(2, number, 5));
            length.due("the last place of " + i, 5, game, g -> g.limitAt(2, number - 1));
            length.due("behind " + i, Check.NO_ELEMENT, game, g -> g.limitAt(2, number));
        }
        Sentence limit = Sentence.of(3, "`limit`: the limit, 1 to 9");
        Ghostracer game = tracksAlone();
        for (int i = 1; i <= 9; i++) {
            int number = i;
            limit.due("a limit of " + i, i, game, g -> g.stretch(2, 1, number));
            limit.due("the limit " + i, i, game, g -> g.limitAt(2, number - 1));
        }
        Sentence range = Sentence.thrown(3, Check.ARGUMENT, "a number is out of range");
        range.refusesEach("the length", Games::bend, (g, n) -> g.stretch(0, n, 5), LEAST, -29, -1,
                0, 31, 257, 65537, MOST);
        range.refusesEach("the limit", Games::bend, (g, n) -> g.stretch(0, 5, n), LEAST, -8, -1, 0,
                10, 257, 65537, MOST);
        range.refuses("both", Games::bend, g -> g.stretch(0, 0, 0));
        range.refuses("on a track without stretches", Games::busy, g -> g.stretch(2, 31, 10));
    }

    private static Ghostracer triedOut() {
        Ghostracer game = Games.type(Games.five(), "+====");
        game.tryOut(0, 0);
        Check.answerOf(game, g -> g.drive(0, 0, 0, 0));
        return game;
    }

    private static Ghostracer struckAlone() {
        Ghostracer game = Games.five();
        Games.drive(game, "+====", 0, -1);
        game.strike(0);
        return game;
    }

    private static void stretchDriven() {
        Sentence driven = Sentence.thrown(3, Check.UNSUPPORTED, "a lap was driven on it");
        driven.refuses("one lap", Games::chain, g -> g.stretch(0, 1, 1));
        driven.refuses("another track", Games::busy, g -> g.stretch(1, 30, 9));
        driven.refuses("thirty laps", Games::ladder, g -> g.stretch(0, 30, 9));
        driven.refuses("struck out", EdgesOfTracks::struckAlone, g -> g.stretch(0, 30, 9));
        driven.due("no lap on this one", 30, Games.busy(), g -> g.stretch(2, 30, 9));
        driven.due("a trial and a refused lap", 8, triedOut(), g -> g.stretch(0, 3, 9));
        driven.due("a round alone", 8, Games.five(), g -> {
            g.round(0);
            return g.stretch(0, 3, 9);
        });
    }

    private static Ghostracer stretches(int count) {
        Ghostracer game = Games.fourCars();
        for (int i = 1; i < count; i++) {
            game.stretch(0, 1, 1 + i % 9);
        }
        return game;
    }

    private static void stretchTwelve() {
        Sentence twelve = Sentence.thrown(3, Check.STATE, "it has 12");
        twelve.refuses("a thirteenth", () -> stretches(12), g -> g.stretch(0, 1, 1));
        twelve.refuses("a thirteenth on the last", EdgesOfTracks::fourTracksFull,
                g -> g.stretch(3, 30, 9));
        twelve.due("a twelfth", 25, stretches(11), g -> g.stretch(0, 10, 9));
        twelve.due("another track's are not counted", 1, stretches(12), g -> {
            g.track();
            return g.stretch(1, 1, 1);
        });
    }

    private static void car() {
        Sentence adds = Sentence.of(4, "Adds a car.", "Returns its number.");
        adds.dueEach("the car", Games.noCar(), (g, n) -> g.car(9, 4, 3), 0, 1, 2, 3);
        Ghostracer game = Games.noCar();
        for (int pull = 1; pull <= 4; pull++) {
            game.car(9, pull, 3);
        }
        adds.dueEach("each its own, the trial of", game, (g, n) -> g.tryOut(0, n), 100, 50, 34, 25);
        Sentence full = Sentence.thrown(4, Check.STATE, "there are 4");
        full.refuses("a fifth", Games::fourCars, g -> g.car(1, 1, 0));
        full.due("a third is not refused", 2, Games.busy(), g -> g.car(1, 1, 0));
        full.due("refused again", Check.STATE, Games.fourCars(), g -> {
            Check.answerOf(g, h -> h.car(1, 1, 0));
            return g.car(1, 1, 0);
        });
    }

    /** How fast a car is behind so many '+', on a ground where it slides if at all. */
    private static int speed(int limit, int top, int pull, int grip, int ticks) {
        Ghostracer game = new Ghostracer();
        game.track();
        for (int i = 0; i < 3; i++) {
            game.stretch(0, 30, limit);
        }
        game.car(top, pull, grip);
        Games.drive(game, "+".repeat(60), 0, -1);
        return game.replay(0, ticks, true);
    }

    private static void carTop() {
        Sentence top = Sentence.of(4, "`top`: the top speed, 1 to 9");
        for (int i = 1; i <= 9; i++) {
            int number = i;
            top.due("a top speed of " + i, 0, new Ghostracer(), g -> g.car(number, 2, 1));
        }
        for (int i = 2; i <= 9; i++) {
            top.same("the top speed " + i, i, speed(9, i, 4, 0, 3));
        }
        top.due("the top speed 1", 1, Games.lapOn(20, 1, 4, "+".repeat(20)),
                g -> g.replay(0, 9, true));
    }

    private static void carPull() {
        Sentence pull = Sentence.of(4, "`pull`: the pull, 1 to 4");
        for (int i = 1; i <= 4; i++) {
            int number = i;
            pull.due("a pull of " + i, 0, new Ghostracer(), g -> g.car(5, number, 1));
        }
        for (int i = 1; i <= 4; i++) {
            pull.same("the pull " + i, i, speed(9, 9, i, 0, 1));
            pull.same("twice the pull " + i, 2 * i, speed(9, 9, i, 0, 2));
        }
    }

    private static void carGrip() {
        Sentence grip = Sentence.of(4, "`grip`: the grip, 0 to 3");
        for (int i = 0; i <= 3; i++) {
            int number = i;
            grip.due("a grip of " + i, 0, new Ghostracer(), g -> g.car(5, 2, number));
        }
        for (int i = 0; i <= 3; i++) {
            grip.same("within the grip " + i, i + 3, speed(3, i + 3, 3, i, 2));
            grip.same("beyond the grip " + i, (i + 4) / 2,
                    speed(3, i + 4, 2, i, 2 + (i + 1) / 2));
        }
    }

    private static void carIsRefused() {
        Sentence range = Sentence.thrown(4, Check.ARGUMENT, "a number is out of range");
        Check.Setup none = Ghostracer::new;
        range.refusesEach("the top speed", none, (g, n) -> g.car(n, 4, 3), LEAST, -1, 0, 10, 257,
                65537, MOST);
        range.refusesEach("the pull", none, (g, n) -> g.car(9, n, 3), LEAST, -1, 0, 5, 257, 65537,
                MOST);
        range.refusesEach("the grip", none, (g, n) -> g.car(9, 4, n), LEAST, -1, 4, 256, 65536,
                MOST);
        range.refuses("all", Games::busy, g -> g.car(0, 0, -1));
        range.due("a pull of more than the top speed is not refused", 0, new Ghostracer(),
                g -> g.car(1, 4, 3));
    }

    private static void lengthOf() {
        Sentence length = Sentence.of(5, "Returns the length of a track.", "Returns the length.",
                "`track`: the number of the track");
        length.dueEach("the track", Games.busy(), (g, n) -> g.lengthOf(n), 5, 7, 0);
        length.dueEach("without stretches, the track", Games.fourTracks(), (g, n) -> g.lengthOf(n),
                0, 0, 0, 0);
        length.dueEach("the longest, the track", fourTracksFull(), (g, n) -> g.lengthOf(n), 360,
                360, 360, 360);
        length.due("the shortest", 1, Games.noCar(), g -> g.lengthOf(0));
        Numbers.noSuchTrack(5, (g, track) -> g.lengthOf(track));
    }

    private static void limitAt() {
        Sentence limit = Sentence.of(6, "Returns the limit at a place of a track.",
                "Returns the limit.", "`track`: the number of the track",
                "`place`: the place, from 0");
        Ghostracer game = Games.fourTracks();
        for (int i = 0; i < 12; i++) {
            game.stretch(3, 30, 1 + i * 7 % 9);
            game.stretch(0, 1, 9 - i * 7 % 9);
        }
        for (int i = 0; i < 360; i++) {
            int place = i;
            limit.due("the place " + i, 1 + i / 30 * 7 % 9, game, g -> g.limitAt(3, place));
        }
        for (int i = 0; i < 12; i++) {
            int place = i;
            limit.due("each place another limit, " + i, 9 - i * 7 % 9, game,
                    g -> g.limitAt(0, place));
        }
        Sentence none = Sentence.thrown(6, Check.NO_ELEMENT,
                "there is no such place, before the length");
        none.refusesEach("the place", Games::busy, (g, n) -> g.limitAt(1, n), LEAST, -257, -1, 7, 8,
                256, 65536, MOST);
        none.refusesEach("360 places, the place", EdgesOfTracks::fourTracksFull,
                (g, n) -> g.limitAt(3, n), -1, 360, 361);
        none.refusesEach("no stretches, the place", Games::busy, (g, n) -> g.limitAt(2, n), -1, 0,
                1);
        none.due("the last place", 9, fourTracksFull(), g -> g.limitAt(3, 359));
        Numbers.noSuchTrack(6, (g, track) -> g.limitAt(track, 0));
    }

    private static void termsOfTracks() {
        Sentence tracks = Sentence.ofTerms("At most 4 tracks are numbered from 0, each a ring of at"
                + " most 12 stretches, with a length, 1 to 30, and a limit, 1 to 9; a track can be"
                + " driven on as soon as it has one, and has no more stretches from its first lap"
                + " on.");
        Ghostracer game = Games.noCar();
        game.car(1, 1, 0);
        tracks.dueEach("from 0, the next but", game, (g, n) -> g.track(), 1, 2, 3, Check.STATE);
        tracks.due("not driven on without a stretch", Check.UNSUPPORTED, game,
                g -> g.drive(0, 3, 0, -1));
        tracks.due("its first stretch", 1, game, g -> g.stretch(3, 1, 1));
        tracks.due("driven on as soon as it has one", 0, game, g -> g.drive(0, 3, 0, -1));
        tracks.due("no more from its first lap on", Check.UNSUPPORTED, game,
                g -> g.stretch(3, 1, 1));
        for (int i = 1; i <= 12; i++) {
            tracks.due("twelve stretches", i, game, g -> g.stretch(1, 1, 1));
        }
        tracks.due("no thirteenth", Check.STATE, game, g -> g.stretch(1, 1, 1));
        tracks.due("a full one can be driven on", 1200, game, g -> {
            g.type('+', 12);
            return g.tryOut(1, 0);
        });
    }

    private static void termsOfCars() {
        Sentence cars = Sentence.ofTerms("At most 4 cars are numbered from 0, each with a top"
                + " speed, 1 to 9, a pull, 1 to 4, and a grip, 0 to 3.");
        Ghostracer game = Games.noCar();
        cars.due("the least", 0, game, g -> g.car(1, 1, 0));
        cars.due("the greatest", 1, game, g -> g.car(9, 4, 3));
        cars.dueEach("the next but", game, (g, n) -> g.car(1, 1, 0), 2, 3, Check.STATE);
        cars.dueEach("each drives, the car", game, (g, n) -> g.tryOut(0, n), 100, 25, 100, 100,
                Check.INDEX);
        Sentence drivers = Sentence.ofTerms("There are the drivers 0 to 5.");
        for (int i = -1; i <= 6; i++) {
            int driver = i;
            Object want = i < 0 || i > 5 ? Check.INDEX : (Object) i;
            drivers.due("a lap by " + i, want, Games.type(game, "+"),
                    g -> g.drive(driver, 0, 0, -1));
            drivers.due("the points of " + i, i < 0 || i > 5 ? Check.INDEX : (Object) 0, game,
                    g -> g.points(driver));
        }
    }
}
