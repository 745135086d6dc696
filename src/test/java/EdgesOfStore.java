/** Promises 19 to 27 and the terms of the store, a check for each sentence's edges. */
final class EdgesOfStore {
    private static final int LEAST = Sentence.LEAST;
    private static final int MOST = Sentence.MOST;
    private static final String LAP = "`lap`: the number of the lap";

    private EdgesOfStore() {
    }

    static void check() {
        Check.parts(EdgesOfStore::base, EdgesOfStore::depth, EdgesOfStore::parts,
                EdgesOfStore::stored, EdgesOfStore::resting, EdgesOfStore::strike,
                EdgesOfStore::giveBack, EdgesOfStore::stands, EdgesOfStore::penalty,
                EdgesOfStore::termsOfWhole, EdgesOfStore::termsOfAgainst,
                EdgesOfStore::termsOfPlaces, EdgesOfStore::termsOfStriking,
                EdgesOfStore::termsOfMany, EdgesOfStore::termsOfGivingBack,
                EdgesOfStore::termsOfStruckOut);
    }

    private static void base() {
        Sentence base = Sentence.of(19, "Returns the base of a lap.", LAP,
                "Returns the number of the lap.");
        Ghostracer game = Games.ladder();
        for (int i = 0; i < 30; i++) {
            int lap = i;
            Object due = i % 6 == 0 ? Check.NO_ELEMENT : (Object) (i - 1);
            base.due("of " + i, due, game, g -> g.base(lap));
        }
        base.due("the base 0", 0, star(), g -> g.base(29));
        Sentence whole = Sentence.thrown(19, Check.NO_ELEMENT, "it is stored whole");
        whole.refuses("without ghost", Games::busy, g -> g.base(0));
        whole.refuses("the last, without ghost", Games::busy, g -> g.base(4));
        whole.refuses("with a ghost of the depth 5", Games::ladder, g -> g.base(24));
        whole.refuses("whose base was struck out", () -> {
            Ghostracer struck = Games.chain();
            struck.strike(0);
            return struck;
        }, g -> g.base(1));
        Numbers.noSuchLap(19, (g, lap) -> g.base(lap));
    }

    /** Thirty laps, all but the first against the first, the lap n with n inputs more. */
    private static Ghostracer star() {
        Ghostracer game = Games.five();
        for (int i = 0; i < 30; i++) {
            Games.drive(game, "=".repeat(i) + "+====", i % 6, i == 0 ? -1 : 0);
        }
        return game;
    }

    private static void depth() {
        Sentence depth = Sentence.of(20, "Returns the depth of a lap.", LAP, "Returns the depth.");
        Ghostracer ladder = Games.ladder();
        Ghostracer star = star();
        for (int i = 0; i < 30; i++) {
            int lap = i;
            depth.due("in a row, of " + i, i % 6, ladder, g -> g.depth(lap));
            depth.due("in a star, of " + i, i == 0 ? 0 : 1, star, g -> g.depth(lap));
        }
        Numbers.noSuchLap(20, (g, lap) -> g.depth(lap));
    }

    private static void parts() {
        Sentence parts = Sentence.of(21, "Returns in how many parts a lap is stored.", LAP,
                "Returns their number.");
        Ghostracer ladder = Games.ladder();
        Ghostracer full = Games.fullOfLaps();
        for (int i = 0; i < 30; i++) {
            int lap = i;
            parts.due("in a row, of " + i, i % 6 == 0 ? 5 + i : 3, ladder, g -> g.parts(lap));
            parts.due("whole, of " + i, 5, full, g -> g.parts(lap));
        }
        parts.due("the least of one that is whole", 1, Games.lapOn(1, 9, 4, "+"),
                g -> g.parts(0));
        parts.due("the most", 60, Games.lapOn(60, 1, 1, "+".repeat(60)), g -> g.parts(0));
        parts.due("the least", 0, Games.lapOn(1, 9, 4, "+"), g -> {
            Games.drive(g, "+", 0, 0);
            return g.parts(1);
        });
        Numbers.noSuchLap(21, (g, lap) -> g.parts(lap));
    }

    private static void stored() {
        Sentence stored = Sentence.of(22, "Returns in how many parts all laps are stored.",
                "Returns their number.");
        stored.due("a new object", 0, new Ghostracer(), g -> g.stored());
        stored.due("no laps", 0, Games.type(Games.five(), "+===="), g -> g.stored());
        stored.due("one", 1, Games.lapOn(1, 9, 4, "+"), g -> g.stored());
        Ghostracer game = Games.five();
        for (int i = 1; i <= 30; i++) {
            Games.drive(game, "=".repeat(55) + "+====", 0, -1);
            stored.due("the most of " + i, 60 * i, game, g -> g.stored());
        }
        // Five that are whole, of 5, 11, 17, 23 and 29 inputs, and 25 of three parts.
        stored.due("in a row", 5 + 11 + 17 + 23 + 29 + 75, Games.ladder(), g -> g.stored());
        Ghostracer struck = Games.ladder();
        struck.strike(29);
        stored.due("those struck out are counted", 160, struck, g -> g.stored());
        struck.strike(0);
        stored.due("one is whole, of 6 and not of 3 parts", 163, struck, g -> g.stored());
    }

    private static void resting() {
        Sentence resting = Sentence.of(23, "Returns how many laps, struck out or not, rest on a"
                + " lap: those that are stored against it, those that are stored against these,"
                + " and so on.", LAP, "Returns their number.");
        Ghostracer ladder = Games.ladder();
        for (int i = 0; i < 30; i++) {
            int lap = i;
            resting.due("in a row, on " + i, 5 - i % 6, ladder, g -> g.resting(lap));
        }
        resting.due("the most", 29, star(), g -> g.resting(0));
        resting.due("the last", 0, star(), g -> g.resting(29));
        resting.due("the only one", 0, Games.lapOn(1, 9, 4, "+"), g -> g.resting(0));
        ladder.strike(5);
        resting.due("the one at the depth 5 is struck out", 5, ladder, g -> g.resting(0));
        ladder.strike(3);
        resting.due("one between is struck out", 5, ladder, g -> g.resting(0));
        resting.due("none on one that is struck out", 0, ladder, g -> g.resting(3));
        ladder.giveBack(3);
        resting.due("nor when it is given back", 0, ladder, g -> g.resting(3));
        ladder.strike(0);
        resting.due("none on the first", 0, ladder, g -> g.resting(0));
        resting.due("those on the next stay", 4, ladder, g -> g.resting(1));
        resting.due("those on another chain stay", 5, ladder, g -> g.resting(24));
        resting.due("a ghost that is no base", 0, Games.ladder(), g -> g.resting(23));
        Numbers.noSuchLap(23, (g, lap) -> g.resting(lap));
    }

    private static void strike() {
        Sentence strikes = Sentence.of(24, "Strikes a lap out.", LAP,
                "Returns how many laps were stored against it.");
        strikes.due("the most", 29, star(), g -> g.strike(0));
        strikes.due("none, the last", 0, star(), g -> g.strike(29));
        strikes.due("not those that rest on these", 1, Games.ladder(), g -> g.strike(0));
        strikes.due("not one whose ghost it is alone", 0, Games.ladder(), g -> g.strike(5));
        Ghostracer game = Games.ladder();
        for (int i = 0; i < 30; i++) {
            int lap = i;
            strikes.due("each from the first, " + i, i % 6 == 5 ? 0 : 1, game,
                    g -> g.strike(lap));
            strikes.due("it stands no more", false, game, g -> g.stands(lap));
        }
        Ghostracer last = Games.ladder();
        for (int i = 29; i >= 0; i--) {
            int lap = i;
            strikes.due("each from the last, " + i, 5 - i % 6, last, g -> g.strike(lap));
        }
        Sentence struck = Sentence.thrown(24, Check.UNSUPPORTED, "it is struck out");
        struck.refuses("in a chain", Games::busy, g -> g.strike(2));
        struck.refuses("the last of thirty", () -> {
            Ghostracer full = Games.ladder();
            full.strike(29);
            return full;
        }, g -> g.strike(29));
        struck.due("not one that was given back", 0, last, g -> {
            g.giveBack(29);
            return g.strike(29);
        });
        Numbers.noSuchLap(24, (g, lap) -> g.strike(lap));
    }

    private static void giveBack() {
        Sentence gives = Sentence.of(25, "Gives a lap back that was struck out.", LAP,
                "Returns how many laps stand then.");
        Ghostracer game = Games.ladder();
        for (int i = 0; i < 30; i++) {
            game.strike(i);
        }
        for (int i = 0; i < 30; i++) {
            int lap = i * 7 % 30;
            gives.due("from none on, " + lap, i + 1, game, g -> g.giveBack(lap));
            gives.due("it stands", true, game, g -> g.stands(lap));
        }
        gives.due("on all tracks", 5, Games.busy(), g -> g.giveBack(2));
        Sentence stands = Sentence.thrown(25, Check.UNSUPPORTED, "it stands");
        stands.refuses("never struck out", Games::busy, g -> g.giveBack(3));
        stands.refuses("the last of thirty", Games::ladder, g -> g.giveBack(29));
        stands.refuses("given back", () -> {
            Ghostracer back = Games.busy();
            back.giveBack(2);
            return back;
        }, g -> g.giveBack(2));
        Numbers.noSuchLap(25, (g, lap) -> g.giveBack(lap));
    }

    private static void stands() {
        Sentence stands = Sentence.of(26, "Tells whether a lap stands.", LAP,
                "Returns true if so.");
        Ghostracer game = Games.ladder();
        for (int i = 0; i < 30; i++) {
            int lap = i;
            stands.due("at first, " + i, true, game, g -> g.stands(lap));
        }
        game.strike(0);
        game.strike(29);
        game.strike(5);
        for (int i = 0; i < 30; i++) {
            int lap = i;
            stands.due("three struck out, " + i, i != 0 && i != 5 && i != 29, game,
                    g -> g.stands(lap));
        }
        game.giveBack(5);
        stands.due("given back", true, game, g -> g.stands(5));
        stands.due("another is not", false, game, g -> g.stands(29));
        stands.due("the worst penalty", true, game, g -> {
            g.penalty(1, 9999);
            return g.stands(1);
        });
        Numbers.noSuchLap(26, (g, lap) -> g.stands(lap));
    }

    private static void penalty() {
        Sentence sets = Sentence.of(27, "Sets the penalty of a lap.", LAP,
                "`hundredths`: the hundredths, 0 to 9999", "Returns the one before.");
        Ghostracer game = Games.ladder();
        int[] hundredths = {0, 1, 9998, 9999, 9999, 0, 0, 128, 256, 5000};
        int before = 0;
        for (int number : hundredths) {
            sets.due("the one before", before, game, g -> g.penalty(29, number));
            sets.due("it is set, not added, " + number, 3400 + number, game, g -> g.time(29, true));
            before = number;
        }
        sets.due("the first", 0, game, g -> g.penalty(0, 9999));
        sets.due("no other", 600, game, g -> g.time(1, true));
        sets.due("struck out", 0, Games.busy(), g -> g.penalty(2, 1));
        sets.due("in a round that is shut", 50, Games.busy(), g -> g.penalty(1, 0));
        Sentence range = Sentence.thrown(27, Check.ARGUMENT, "it is out of range");
        range.refusesEach("the hundredths", Games::busy, (g, n) -> g.penalty(1, n), LEAST, -9999,
                -1, 10000, 10001, 65536, MOST);
        range.refusesEach("struck out, the hundredths", Games::busy, (g, n) -> g.penalty(2, n), -1,
                10000);
        Numbers.noSuchLap(27, (g, lap) -> g.penalty(lap, 0));
    }

    /** Tells base, depth and parts of each lap, the base -1 for a lap that is whole. */
    private static void storeIs(Sentence sentence, String what, Ghostracer game, int[][] rows) {
        for (int i = 0; i < rows.length; i++) {
            int lap = i;
            Object base = rows[i][0] < 0 ? Check.NO_ELEMENT : (Object) rows[i][0];
            sentence.due(what + ", base of " + i, base, game, g -> g.base(lap));
            sentence.due(what + ", depth of " + i, rows[i][1], game, g -> g.depth(lap));
            sentence.due(what + ", parts of " + i, rows[i][2], game, g -> g.parts(lap));
        }
        sentence.due(what + ", sound", true, game, g -> g.isSound());
    }

    private static void termsOfWhole() {
        Sentence whole = Sentence.ofTerms("A lap without ghost, or whose ghost has the depth 5, is"
                + " stored whole, in as many parts as it has inputs, at the depth 0.");
        for (int i = 1; i <= 60; i++) {
            Ghostracer game = Games.lapOn(i, 1, 1, "+".repeat(60));
            storeIs(whole, "without ghost, " + i + " inputs", game, new int[][] {{-1, 0, i}});
        }
        Ghostracer game = Games.chain();
        Games.drive(game, "=+====", 0, 5);
        Games.drive(game, "+====", 0, 4);
        Games.drive(game, "+====", 0, 7);
        Games.drive(game, "==+====", 0, 8);
        storeIs(whole, "a ghost of the depth 5", game, new int[][] {{-1, 0, 5}, {0, 1, 1},
            {1, 2, 1}, {2, 3, 1}, {3, 4, 1}, {4, 5, 5}, {-1, 0, 6}, {4, 5, 4}, {-1, 0, 5},
            {8, 1, 4}});
        game.strike(1);
        Games.drive(game, "+====", 0, 7);
        whole.due("not when a strike has made it 4", 7, game, g -> g.base(10));
        whole.due("the depth is 5 then", 5, game, g -> g.depth(10));
    }

    private static void termsOfAgainst() {
        Sentence against = Sentence.ofTerms(AGAINST);
        Ghostracer game = Games.five();
        Games.drive(game, "=+====", 0, -1);
        Games.drive(game, "=+====", 1, 0);
        Games.drive(game, "++====", 2, 1);
        Games.drive(game, "==+====", 3, 0);
        Games.drive(game, "---------+====", 4, 0);
        Games.drive(game, "+====", 5, 4);
        Games.drive(game, "+====", 0, 5);
        storeIs(against, "alike, shorter and longer", game, new int[][] {{-1, 0, 6}, {0, 1, 0},
            {1, 2, 1}, {0, 1, 3}, {0, 1, 14}, {4, 2, 5}, {5, 3, 0}});
        Ghostracer deep = Games.chain();
        for (int i = 0; i < 6; i++) {
            int lap = i;
            against.due("a depth more than that of the base, " + i, i, deep, g -> g.depth(lap));
        }
    }

    private static final String AGAINST = "Any other one is stored against its ghost, which is its"
            + " base, at a depth 1 more than that of the base, in as many parts as there are places"
            + " at which it has an input that is unlike that of the base there, or at which the"
            + " base has none.";

    /** The first and the last place of sixty, and each between. */
    private static void termsOfPlaces() {
        Sentence against = Sentence.ofTerms(AGAINST);
        String alike = "=".repeat(55) + "+====";
        for (int first = 0; first < 54; first += 18) {
            Ghostracer game = Games.lapOn(5, 1, 1, alike);
            for (int i = first; i < first + 18; i++) {
                int lap = i - first + 1;
                String word = "=".repeat(i) + "-" + alike.substring(i + 1);
                Games.drive(game, word, 0, 0);
                against.due("one unlike, at " + i, 1, game, g -> g.parts(lap));
            }
        }
        Ghostracer ends = Games.lapOn(5, 1, 1, alike);
        Games.drive(ends, "=".repeat(55) + "+===+", 0, 0);
        against.due("one unlike, at the last place", 1, ends, g -> g.parts(1));
        Games.drive(ends, "-".repeat(55) + "+++++", 0, 0);
        against.due("unlike but at one", 59, ends, g -> g.parts(2));
        ends.car(9, 4, 3);
        Games.type(ends, "+=");
        ends.drive(0, 0, 1, 0);
        against.due("two inputs, one of them unlike, against sixty", 1, ends, g -> g.parts(3));
        Games.drive(ends, "+=" + "-".repeat(55) + "+==", 0, 3);
        against.due("alike while there are both, 58 that the base has not", 58, ends,
                g -> g.parts(4));
        Games.type(ends, "+=");
        ends.drive(0, 0, 1, 4);
        against.due("none unlike, against longer", 0, ends, g -> g.parts(5));
    }

    private static final String STRIKING = "As a lap is struck out, all that are stored against it"
            + " are stored against its own base, or whole without one, with their inputs as they"
            + " are; so are the depths of those that rest on these then.";

    private static void termsOfStriking() {
        Sentence striking = Sentence.ofTerms(STRIKING);
        Ghostracer middle = Games.chain();
        middle.strike(1);
        storeIs(striking, "against its own base", middle, new int[][] {{-1, 0, 5}, {0, 1, 1},
            {0, 1, 2}, {2, 2, 1}, {3, 3, 1}, {4, 4, 5}});
        Ghostracer first = Games.chain();
        first.strike(0);
        storeIs(striking, "whole without one", first, new int[][] {{-1, 0, 5}, {-1, 0, 5},
            {1, 1, 1}, {2, 2, 1}, {3, 3, 1}, {4, 4, 5}});
        first.strike(1);
        storeIs(striking, "whole again", first, new int[][] {{-1, 0, 5}, {-1, 0, 5}, {-1, 0, 5},
            {2, 1, 1}, {3, 2, 1}, {4, 3, 5}});
        Ghostracer last = Games.chain();
        last.strike(5);
        storeIs(striking, "none against the last", last, new int[][] {{-1, 0, 5}, {0, 1, 1},
            {1, 2, 1}, {2, 3, 1}, {3, 4, 1}, {4, 5, 5}});
        last.strike(4);
        storeIs(striking, "one struck out against it", last, new int[][] {{-1, 0, 5}, {0, 1, 1},
            {1, 2, 1}, {2, 3, 1}, {3, 4, 1}, {3, 4, 4}});
        String[] words = {"+====", "++===", "+++==", "++++=", "+++++", "=+===="};
        for (int i = 0; i < 6; i++) {
            for (int tick = 0; tick < words[i].length(); tick++) {
                int lap = i;
                int at = tick;
                striking.due("their inputs, " + i + " at " + tick, words[i].charAt(tick), first,
                        g -> g.inputAt(lap, at));
            }
        }
    }

    private static void termsOfMany() {
        Sentence striking = Sentence.ofTerms(STRIKING);
        Ghostracer star = star();
        star.strike(0);
        int[][] rows = new int[30][];
        for (int i = 0; i < 30; i++) {
            rows[i] = new int[] {-1, 0, 5 + i};
        }
        storeIs(striking, "all 29, whole", star, rows);
        Ghostracer tree = Games.five();
        Games.drive(tree, "+====", 0, -1);
        Games.drive(tree, "++===", 0, 0);
        for (int i = 2; i < 10; i++) {
            Games.drive(tree, "+++==", 0, 1);
            Games.drive(tree, "++++=", 0, i * 2 - 2);
        }
        striking.due("eight of eighteen", 8, tree, g -> g.strike(1));
        int[][] due = new int[18][];
        for (int i = 2; i < 18; i++) {
            due[i] = i % 2 == 0 ? new int[] {0, 1, 2} : new int[] {i - 1, 2, 1};
        }
        due[0] = new int[] {-1, 0, 5};
        due[1] = new int[] {0, 1, 1};
        storeIs(striking, "eight and what rests on these", tree, due);
    }

    private static void termsOfGivingBack() {
        Sentence back = Sentence.ofTerms("A lap that is given back is not the base of others by"
                + " that.");
        int[][] due = {{-1, 0, 5}, {0, 1, 1}, {0, 1, 2}, {2, 2, 1}, {3, 3, 1}, {4, 4, 5}};
        Ghostracer game = Games.chain();
        game.strike(1);
        game.giveBack(1);
        storeIs(back, "given back", game, due);
        back.due("none is stored against it", 0, game, g -> g.strike(1));
        storeIs(back, "struck out again", game, due);
        game.giveBack(1);
        Games.drive(game, "++===", 0, 1);
        back.due("it is that of a new lap that races it", 1, game, g -> g.base(6));
        Ghostracer first = Games.chain();
        first.strike(0);
        first.giveBack(0);
        back.due("nor of one that is whole now", Check.NO_ELEMENT, first, g -> g.base(1));
        back.due("whose ghost it is still", 0, first, g -> g.of(1, 'g'));
    }

    private static void termsOfStruckOut() {
        Sentence stays = Sentence.ofTerms("A lap that is struck out stays stored as it is, but its"
                + " base can be struck out later: then it is stored anew like others.");
        Ghostracer game = Games.chain();
        game.strike(4);
        int[][] as = {{-1, 0, 5}, {0, 1, 1}, {1, 2, 1}, {2, 3, 1}, {3, 4, 1}, {3, 4, 4}};
        storeIs(stays, "as it is", game, as);
        stays.due("its base is struck out, two against it", 2, game, g -> g.strike(3));
        storeIs(stays, "anew", game, new int[][] {{-1, 0, 5}, {0, 1, 1}, {1, 2, 1}, {2, 3, 1},
            {2, 3, 2}, {2, 3, 3}});
        stays.due("what it rests on is struck out", 1, game, g -> g.strike(0));
        storeIs(stays, "its depth is less", game, new int[][] {{-1, 0, 5}, {-1, 0, 5}, {1, 1, 1},
            {2, 2, 1}, {2, 2, 2}, {2, 2, 3}});
        stays.due("again", 1, game, g -> g.strike(1));
        stays.due("all three, two of them struck out", 3, game, g -> g.strike(2));
        storeIs(stays, "whole like others", game, new int[][] {{-1, 0, 5}, {-1, 0, 5}, {-1, 0, 5},
            {-1, 0, 5}, {-1, 0, 5}, {-1, 0, 6}});
        stays.due("it is counted in the store", 31, game, g -> g.stored());
        stays.due("given back, as it is then", 2, game, g -> g.giveBack(4));
        stays.due("whole", Check.NO_ELEMENT, game, g -> g.base(4));
    }
}
