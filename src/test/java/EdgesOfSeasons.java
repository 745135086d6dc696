/** Promises 28 to 35 and the terms of seasons, a check for each sentence's edges. */
final class EdgesOfSeasons {
    private static final int LEAST = Sentence.LEAST;
    private static final int MOST = Sentence.MOST;
    private static final String DRIVER = "`driver`: the driver, 0 to 5";
    private static final String ROUND = "`round`: the number of the round";
    private static final String NO_ROUND = "there is no such round or driver";

    private EdgesOfSeasons() {
    }

    static void check() {
        Check.parts(EdgesOfSeasons::round, EdgesOfSeasons::shut, EdgesOfSeasons::lapIn,
                EdgesOfSeasons::placeIn, EdgesOfSeasons::drop, EdgesOfSeasons::points,
                EdgesOfSeasons::wins, EdgesOfSeasons::standing, EdgesOfSeasons::termsOfRounds,
                EdgesOfSeasons::termsOfOpenRounds, EdgesOfSeasons::termsOfLaps,
                EdgesOfSeasons::termsOfPlaces, EdgesOfSeasons::termsOfDrops,
                EdgesOfSeasons::termsOfDropsWithoutLaps, EdgesOfSeasons::termsOfOrder);
    }

    private static Ghostracer rounds(int count) {
        Ghostracer game = Games.five();
        for (int i = 0; i < count; i++) {
            game.round(0);
        }
        return game;
    }

    private static void round() {
        Sentence opens = Sentence.of(28, "Opens a round; one that is open is shut.",
                "`track`: the number of the track", "Returns its number.");
        opens.dueEach("the round", Games.five(), (g, n) -> g.round(0), 0, 1, 2, 3, 4, 5, 6, 7, 8,
                9);
        opens.dueEach("on each track, the round", Games.fourTracks(), (g, n) -> g.round(n), 0, 1,
                2, 3);
        opens.due("one that is open is shut", 1, rounds(2), g -> g.shut());
        opens.due("only the new one was open", Check.STATE, rounds(2), g -> {
            g.shut();
            return g.shut();
        });
        opens.due("laps are of the new one", 9, rounds(10), g -> {
            Games.drive(g, "+====", 0, -1);
            return g.of(0, 'r');
        });
        opens.due("a round that was shut is counted", 1, rounds(1), g -> {
            g.shut();
            return g.round(0);
        });
        opens.due("a lap of the one before stays so", 0, Games.busy(), g -> g.of(3, 'r'));
        Sentence ten = Sentence.thrown(28, Check.STATE, "there are 10");
        ten.refuses("an eleventh", () -> rounds(10), g -> g.round(0));
        ten.refuses("an eleventh with laps", Games::ladder, g -> g.round(0));
        ten.refuses("an eleventh, none being open", () -> {
            Ghostracer game = rounds(10);
            game.shut();
            return game;
        }, g -> g.round(0));
        ten.due("a tenth is not refused", 9, rounds(9), g -> g.round(0));
        ten.due("the tenth stays open", 9, rounds(10), g -> {
            Check.answerOf(g, h -> h.round(0));
            return g.shut();
        });
        Numbers.noSuchTrack(28, (g, track) -> g.round(track));
    }

    private static void shut() {
        Sentence shuts = Sentence.of(29, "Shuts the round that is open.", "Returns its number.");
        for (int i = 1; i <= 10; i++) {
            shuts.due("of " + i, i - 1, rounds(i), g -> g.shut());
        }
        shuts.due("laps are of none then", -1, rounds(10), g -> {
            g.shut();
            Games.drive(g, "+====", 0, -1);
            return g.of(0, 'r');
        });
        shuts.due("as many rounds are dropped as before", 1, Games.busy(), g -> {
            g.shut();
            return g.drop(0);
        });
        shuts.due("its laps stay its own", 29, Games.ladder(), g -> {
            g.shut();
            return g.lapIn(9, 5);
        });
        Sentence none = Sentence.thrown(29, Check.STATE, "none is open");
        none.refuses("a new object", Ghostracer::new, g -> g.shut());
        none.refuses("no round yet", Games::chain, g -> g.shut());
        for (int i = 1; i <= 10; i++) {
            int count = i;
            none.refuses("shut already, of " + i, () -> {
                Ghostracer game = rounds(count);
                game.shut();
                return game;
            }, g -> g.shut());
        }
    }

    private static void lapIn() {
        Sentence laps = Sentence.of(30, "Returns the lap that a driver has in a round.", ROUND,
                DRIVER, "Returns the number of the lap.");
        Ghostracer game = Games.ladder();
        for (int i = 0; i < 30; i++) {
            int lap = i;
            laps.due("the round " + i / 3, i, game, g -> g.lapIn(lap / 3, lap % 6));
        }
        Sentence none = Sentence.thrown(30, Check.NO_ELEMENT, "there is none");
        none.refuses("another drives in the first", Games::ladder, g -> g.lapIn(0, 3));
        none.refuses("another drives in the last", Games::ladder, g -> g.lapIn(9, 0));
        none.refuses("struck out", Games::busy, g -> g.lapIn(0, 2));
        none.refuses("no laps", () -> rounds(10), g -> g.lapIn(9, 5));
        none.refuses("on another track", Games::busy, g -> g.lapIn(1, 0));
        Sentence index = Sentence.thrown(30, Check.INDEX, NO_ROUND);
        Numbers.noSuchRound(index, (g, round) -> g.lapIn(round, 0));
        Numbers.noSuchDriver(index, (g, driver) -> g.lapIn(0, driver));
    }

    /** One round, in which the drivers 0 to 5 have the laps 0 to 5, each a tick more. */
    private static Ghostracer six() {
        Ghostracer game = rounds(1);
        for (int i = 0; i < 6; i++) {
            Games.drive(game, "=".repeat(i) + "+====", i, -1);
        }
        return game;
    }

    private static void placeIn() {
        Sentence places = Sentence.of(31, "Returns the place of a driver in a round, from 1.",
                ROUND, DRIVER, "Returns the place.");
        places.dueEach("of the driver", six(), (g, n) -> g.placeIn(0, n), 1, 2, 3, 4, 5, 6);
        Ghostracer game = Games.ladder();
        for (int i = 0; i < 30; i++) {
            int lap = i;
            places.due("in the round " + i / 3, i % 3 + 1, game,
                    g -> g.placeIn(lap / 3, lap % 6));
        }
        places.due("the only one", 1, Games.busy(), g -> g.placeIn(1, 3));
        Sentence none = Sentence.thrown(31, Check.NO_ELEMENT, "this one has no lap in it");
        none.refuses("another drives in the first", Games::ladder, g -> g.placeIn(0, 3));
        none.refuses("another drives in the last", Games::ladder, g -> g.placeIn(9, 0));
        none.refuses("struck out", Games::busy, g -> g.placeIn(0, 2));
        none.refuses("no laps", () -> rounds(10), g -> g.placeIn(9, 5));
        Sentence index = Sentence.thrown(31, Check.INDEX, NO_ROUND);
        Numbers.noSuchRound(index, (g, round) -> g.placeIn(round, 0));
        Numbers.noSuchDriver(index, (g, driver) -> g.placeIn(0, driver));
    }

    private static void drop() {
        Sentence drops = Sentence.of(32, "Tells how many rounds are dropped.",
                "`rounds`: how many rounds are dropped, 0 to 3", "Returns how many before.");
        Ghostracer game = Games.ladder();
        int before = 0;
        for (int number : new int[] {0, 1, 2, 3, 3, 0, 3, 1, 0, 0}) {
            drops.due("before " + number, before, game, g -> g.drop(number));
            before = number;
        }
        drops.due("without a round", 0, new Ghostracer(), g -> g.drop(3));
        Sentence range = Sentence.thrown(32, Check.ARGUMENT, "it is out of range");
        range.refusesEach("the number", Games::busy, (g, n) -> g.drop(n), LEAST, -257, -1, 4, 5,
                256, 65536, MOST);
        range.refusesEach("a new object, the number", Ghostracer::new, (g, n) -> g.drop(n), -1, 4);
    }

    private static void points() {
        Sentence points = Sentence.of(33, "Returns the points of a driver in the season.", DRIVER,
                "Returns the points.");
        points.dueEach("no round, of", Games.chain(), (g, n) -> g.points(n), 0, 0, 0, 0, 0, 0);
        points.dueEach("no laps, of", rounds(10), (g, n) -> g.points(n), 0, 0, 0, 0, 0, 0);
        points.dueEach("one round, of", six(), (g, n) -> g.points(n), 10, 8, 6, 5, 4, 3);
        points.dueEach("ten rounds, of", Games.ladder(), (g, n) -> g.points(n), 50, 40, 30, 50, 40,
                30);
        Ghostracer most = Games.five();
        for (int i = 0; i < 10; i++) {
            most.round(0);
            Games.drive(most, "+====", 5, -1);
        }
        points.dueEach("the most, of", most, (g, n) -> g.points(n), 0, 0, 0, 0, 0, 100);
        Sentence index = Sentence.thrown(33, Check.INDEX, "there is no such driver");
        Numbers.noSuchDriver(index, (g, driver) -> g.points(driver));
    }

    private static void wins() {
        Sentence wins = Sentence.of(34, "Returns how many rounds a driver has won.", DRIVER,
                "Returns their number.");
        wins.dueEach("no round, of", Games.chain(), (g, n) -> g.wins(n), 0, 0, 0, 0, 0, 0);
        wins.dueEach("no laps, of", rounds(10), (g, n) -> g.wins(n), 0, 0, 0, 0, 0, 0);
        wins.dueEach("one round, of", six(), (g, n) -> g.wins(n), 1, 0, 0, 0, 0, 0);
        wins.dueEach("ten rounds, of", Games.ladder(), (g, n) -> g.wins(n), 5, 0, 0, 5, 0, 0);
        Ghostracer dropped = Games.ladder();
        dropped.drop(3);
        wins.dueEach("dropped ones are won as well, of", dropped, (g, n) -> g.wins(n), 5, 0, 0, 5,
                0, 0);
        Ghostracer struck = six();
        for (int i = 0; i < 6; i++) {
            int lap = i;
            wins.due("the first of those that stand, " + i, 1, struck, g -> g.wins(lap));
            struck.strike(i);
            wins.due("struck out, " + i, 0, struck, g -> g.wins(lap));
        }
        Sentence index = Sentence.thrown(34, Check.INDEX, "there is no such driver");
        Numbers.noSuchDriver(index, (g, driver) -> g.wins(driver));
    }

    private static void standing() {
        Sentence standing = Sentence.of(35, "Returns the driver at a place of the season.",
                "`place`: the place, from 0 to 5", "Returns the driver.");
        standing.dueEach("no round, at", new Ghostracer(), (g, n) -> g.standing(n), 0, 1, 2, 3, 4,
                5);
        standing.dueEach("no laps, at", rounds(10), (g, n) -> g.standing(n), 0, 1, 2, 3, 4, 5);
        standing.dueEach("ten rounds, at", Games.ladder(), (g, n) -> g.standing(n), 0, 3, 1, 4, 2,
                5);
        Ghostracer turned = rounds(1);
        for (int i = 5; i >= 0; i--) {
            Games.drive(turned, "+====", i, -1);
        }
        standing.dueEach("turned round, at", turned, (g, n) -> g.standing(n), 5, 4, 3, 2, 1, 0);
        Sentence index = Sentence.thrown(35, Check.INDEX, "there is no such place");
        index.refusesEach("the place", Games::busy, (g, n) -> g.standing(n), LEAST, -257, -1, 6, 7,
                256, 65536, MOST);
        index.refusesEach("a new object, the place", Ghostracer::new, (g, n) -> g.standing(n), -1,
                6);
    }

    private static void termsOfRounds() {
        Sentence rounds = Sentence.ofTerms(
                "At most 10 rounds are numbered from 0, each on a track.");
        Ghostracer game = Games.fourTracks();
        for (int i = 0; i < 4; i++) {
            game.stretch(i, 1, 1);
        }
        for (int i = 0; i <= 10; i++) {
            int track = i % 4;
            rounds.due("the round " + i, i < 10 ? (Object) i : Check.STATE, game,
                    g -> g.round(track));
            Games.type(game, "+");
            game.drive(i % 6, track, 0, -1);
        }
        for (int i = 0; i < 10; i++) {
            int round = i;
            rounds.due("its lap", i, game, g -> g.lapIn(round, round % 6));
        }
        rounds.due("the eleventh lap is on another track than the tenth round", -1, game,
                g -> g.of(10, 'r'));
    }

    private static void termsOfOpenRounds() {
        Sentence open = Sentence.ofTerms("A round is open from when it is told until it is shut, or"
                + " the next one is told; laps driven on its track meanwhile are of this round.");
        Ghostracer game = Games.fourTracks();
        game.stretch(0, 1, 1);
        game.stretch(3, 1, 1);
        int[] tracks = {0, 0, 3, 0, 3, 3, 0, 0, 0};
        int[] rounds = {-1, 0, -1, -1, 1, 1, -1, 2, -1};
        for (int i = 0; i < tracks.length; i++) {
            if (i == 1 || i == 7) {
                game.round(0);
            }
            if (i == 3) {
                game.round(3);
            }
            if (i == 8) {
                game.shut();
            }
            int lap = i;
            Games.type(game, "+");
            game.drive(0, tracks[i], 0, -1);
            open.due("the lap " + i, rounds[i], game, g -> g.of(lap, 'r'));
        }
        for (int i = 0; i < tracks.length; i++) {
            int lap = i;
            open.due("it stays, the lap " + i, rounds[i], game, g -> g.of(lap, 'r'));
        }
        open.due("of one that was shut", 1, game, g -> g.lapIn(0, 0));
        open.due("the lower number", 4, game, g -> g.lapIn(1, 0));
    }

    private static final String LAPS = "In a round each driver has the lap of the round that stands"
            + " and counts with least, of several the one with the lower number; drivers with one"
            + " are placed by these, likewise, and have 10, 8, 6, 5, 4 and 3 points.";

    private static void termsOfLaps() {
        Sentence laps = Sentence.ofTerms(LAPS);
        Ghostracer game = rounds(1);
        for (int i = 0; i < 30; i++) {
            Games.drive(game, "+====", 5, -1);
        }
        for (int i = 0; i < 30; i++) {
            int lap = i;
            laps.due("of several the lower, " + i, i, game, g -> g.lapIn(0, 5));
            if (i % 2 == 0) {
                game.strike(lap);
            } else {
                game.penalty(lap, 1);
            }
        }
        laps.due("those with a penalty are left", 1, game, g -> g.lapIn(0, 5));
        game.giveBack(28);
        laps.due("given back, one less", 28, game, g -> g.lapIn(0, 5));
        game.penalty(28, 1);
        laps.due("as much, the lower", 1, game, g -> g.lapIn(0, 5));
        game.penalty(28, 2);
        laps.due("one more", 1, game, g -> g.lapIn(0, 5));
        laps.due("a faster one out of the round is nothing", 0, rounds(1), g -> {
            Games.drive(g, "=+====", 0, -1);
            g.shut();
            Games.drive(g, "+====", 0, -1);
            return g.lapIn(0, 0);
        });
    }

    private static void termsOfPlaces() {
        Sentence places = Sentence.ofTerms(LAPS);
        Ghostracer game = six();
        places.dueEach("the points of", game, (g, n) -> g.points(n), 10, 8, 6, 5, 4, 3);
        game.penalty(0, 500);
        places.dueEach("as much as the last, the place of", game, (g, n) -> g.placeIn(0, n), 5, 1,
                2, 3, 4, 6);
        game.penalty(0, 501);
        places.dueEach("one more than the last, the place of", game, (g, n) -> g.placeIn(0, n), 6,
                1, 2, 3, 4, 5);
        places.dueEach("the points then, of", game, (g, n) -> g.points(n), 3, 10, 8, 6, 5, 4);
        game.strike(1);
        game.strike(3);
        places.dueEach("two struck out, the place of", game, (g, n) -> g.placeIn(0, n), 4,
                Check.NO_ELEMENT, 1, Check.NO_ELEMENT, 2, 3);
        places.dueEach("two struck out, the points of", game, (g, n) -> g.points(n), 5, 0, 10, 0,
                8, 6);
        Ghostracer turned = rounds(1);
        for (int i = 5; i >= 0; i--) {
            Games.drive(turned, "+====", i, -1);
        }
        places.dueEach("all as much, by the laps' numbers, the place of", turned,
                (g, n) -> g.placeIn(0, n), 6, 5, 4, 3, 2, 1);
        Games.drive(turned, "+====", 0, -1);
        turned.penalty(5, 1);
        places.due("by another lap of the same driver", 6, turned, g -> g.lapIn(0, 0));
        turned.penalty(0, 1);
        places.dueEach("as much, but for one, the place of", turned, (g, n) -> g.placeIn(0, n), 5,
                4, 3, 2, 1, 6);
    }

    /** Drives a round in which the driver 0 has the place, behind as many others as it needs. */
    private static void place(Ghostracer game, int place) {
        game.round(0);
        for (int i = 1; i < place; i++) {
            Games.drive(game, "+++++", i, -1);
        }
        if (place > 0) {
            Games.drive(game, "+++++", 0, -1);
        }
    }

    private static final String DROPS = "The points of a season are those of all rounds, less those"
            + " of as many rounds as are dropped, 0 to 3, the least ones, or all, if there are no"
            + " more, a round without a lap having 0.";

    private static void dropsAre(Sentence drops, String what, int[] places, int... due) {
        for (int i = 0; i <= 3; i++) {
            Ghostracer game = Games.five();
            for (int place : places) {
                place(game, place);
            }
            game.drop(i);
            drops.due(what + ", dropped " + i, due[i], game, g -> g.points(0));
        }
    }

    private static void termsOfDrops() {
        Sentence drops = Sentence.ofTerms(DROPS);
        dropsAre(drops, "no round", new int[] {}, 0, 0, 0, 0);
        dropsAre(drops, "one round", new int[] {1}, 10, 0, 0, 0);
        dropsAre(drops, "two rounds", new int[] {2, 1}, 18, 10, 0, 0);
        dropsAre(drops, "three rounds", new int[] {1, 3, 2}, 24, 18, 10, 0);
        dropsAre(drops, "four rounds", new int[] {3, 1, 4, 2}, 29, 24, 18, 10);
        dropsAre(drops, "the least is the first", new int[] {6, 5, 4, 3, 2}, 26, 23, 19, 14);
        dropsAre(drops, "the least is the last", new int[] {2, 3, 4, 5, 6}, 26, 23, 19, 14);
        dropsAre(drops, "all alike", new int[] {2, 2, 2, 2, 2}, 40, 32, 24, 16);
        dropsAre(drops, "ten rounds", new int[] {1, 2, 6, 1, 3, 1, 5, 1, 4, 1}, 76, 73, 69, 64);
        Ghostracer many = Games.ladder();
        many.drop(3);
        drops.dueEach("five without a lap are more than are dropped, of", many,
                (g, n) -> g.points(n), 50, 40, 30, 50, 40, 30);
        many.drop(0);
        drops.due("none is dropped any more", 50, many, g -> g.points(0));
    }

    private static void termsOfDropsWithoutLaps() {
        Sentence drops = Sentence.ofTerms(DROPS);
        dropsAre(drops, "one without a lap", new int[] {0}, 0, 0, 0, 0);
        dropsAre(drops, "it is the first", new int[] {0, 1, 2, 3}, 24, 24, 18, 10);
        dropsAre(drops, "it is the last", new int[] {1, 2, 3, 0}, 24, 24, 18, 10);
        dropsAre(drops, "two of them", new int[] {0, 6, 0, 1, 2}, 21, 21, 21, 18);
        dropsAre(drops, "three of them", new int[] {0, 6, 0, 1, 0}, 13, 13, 13, 13);
        dropsAre(drops, "four of them", new int[] {0, 0, 0, 0, 1}, 10, 10, 10, 10);
        Ghostracer struck = Games.five();
        place(struck, 1);
        place(struck, 2);
        struck.drop(1);
        struck.strike(0);
        drops.due("its lap struck out, it is the one that is dropped", 8, struck,
                g -> g.points(0));
        struck.drop(2);
        drops.due("it and the other", 0, struck, g -> g.points(0));
        struck.giveBack(0);
        struck.drop(1);
        drops.due("given back, the other is dropped", 10, struck, g -> g.points(0));
    }

    private static void termsOfOrder() {
        Sentence order = Sentence.ofTerms("Drivers are ordered by points, then by how many rounds"
                + " they have won, then by lower numbers; all six are.");
        order.dueEach("none has points, at", new Ghostracer(), (g, n) -> g.standing(n), 0, 1, 2, 3,
                4, 5, Check.INDEX);
        Ghostracer game = rounds(1);
        Games.drive(game, "+====", 5, -1);
        order.dueEach("one has points, at", game, (g, n) -> g.standing(n), 5, 0, 1, 2, 3, 4);
        game.drop(1);
        order.dueEach("as many points, one has won, at", game, (g, n) -> g.standing(n), 5, 0, 1, 2,
                3, 4);
        game.round(0);
        Games.drive(game, "+====", 4, -1);
        game.drop(2);
        order.dueEach("as many points and wins, at", game, (g, n) -> g.standing(n), 4, 5, 0, 1, 2,
                3);
        game.strike(1);
        order.dueEach("that win is lost, at", game, (g, n) -> g.standing(n), 5, 0, 1, 2, 3, 4);
        Ghostracer more = rounds(1);
        Games.drive(more, "+====", 5, -1);
        Games.drive(more, "+====", 0, -1);
        more.round(0);
        Games.drive(more, "+====", 1, -1);
        Games.drive(more, "+====", 0, -1);
        order.dueEach("more points are ahead of wins, at", more, (g, n) -> g.standing(n), 0, 1, 5,
                2, 3, 4);
    }
}
