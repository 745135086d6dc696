/** Promises 11 to 18 and the terms of laps, a check for each sentence's edges. */
final class EdgesOfLaps {
    private static final int LEAST = Sentence.LEAST;
    private static final int MOST = Sentence.MOST;
    private static final String LAP = "`lap`: the number of the lap";

    private EdgesOfLaps() {
    }

    static void check() {
        Check.parts(EdgesOfLaps::laps, EdgesOfLaps::time, EdgesOfLaps::ticks, EdgesOfLaps::inputAt,
                EdgesOfLaps::replay, EdgesOfLaps::replayToTheEnd, EdgesOfLaps::of,
                EdgesOfLaps::ofRounds, EdgesOfLaps::ofIsRefused, EdgesOfLaps::beats,
                EdgesOfLaps::least, EdgesOfLaps::termsOfInputs, EdgesOfLaps::termsOfKeeping,
                EdgesOfLaps::termsOfCounting, EdgesOfLaps::termsOfBeating);
    }

    /** One lap of the least time, 25, of one tick. */
    private static Ghostracer fastest() {
        return Games.lapOn(1, 9, 4, "+");
    }

    /** One lap of the most ticks, 60. */
    private static Ghostracer longest() {
        return Games.lapOn(60, 1, 1, "+".repeat(60));
    }

    private static void laps() {
        Sentence laps = Sentence.of(11, "Returns how many laps there are.",
                "Returns their number.");
        laps.due("none", 0, new Ghostracer(), g -> g.laps());
        laps.due("a track and a car alone", 0, Games.five(), g -> g.laps());
        laps.due("on all tracks", 5, Games.busy(), g -> g.laps());
        laps.due("thirty", 30, Games.ladder(), g -> g.laps());
        laps.due("a refused one is none", 30, Games.type(Games.ladder(), "+++++"), g -> {
            Check.answerOf(g, h -> h.drive(0, 0, 0, -1));
            return g.laps();
        });
        laps.due("struck out", 1, fastest(), g -> {
            g.strike(0);
            return g.laps();
        });
        Ghostracer game = Games.five();
        for (int i = 0; i < 30; i++) {
            laps.due("so far", i, game, g -> g.laps());
            Games.drive(game, "+++++", 0, -1);
        }
    }

    private static void time() {
        Sentence time = Sentence.of(12, "Returns the time of a lap.", LAP,
                "`isCounted`: whether with its penalty", "Returns the hundredths.");
        Ghostracer game = Games.ladder();
        for (int i = 0; i < 30; i++) {
            int lap = i;
            int due = 500 + 100 * i;
            time.due("the lap " + i, due, game, g -> g.time(lap, false));
            time.due("a penalty of 0, the lap " + i, due, game, g -> g.time(lap, true));
        }
        game.penalty(0, 9999);
        game.penalty(29, 1);
        time.due("the most, counted", 10499, game, g -> g.time(0, true));
        time.due("the most, not counted", 500, game, g -> g.time(0, false));
        time.due("the least, counted", 3401, game, g -> g.time(29, true));
        time.due("the least, not counted", 3400, game, g -> g.time(29, false));
        time.due("no penalty of its own", 600, game, g -> g.time(1, true));
        time.due("the fastest", 25, fastest(), g -> g.time(0, true));
        time.due("the longest", 6000, longest(), g -> g.time(0, false));
        time.due("the longest with the most", 15999, longest(), g -> {
            g.penalty(0, 9999);
            return g.time(0, true);
        });
        time.due("struck out", 500, game, g -> {
            g.strike(0);
            return g.time(0, false);
        });
        time.due("struck out, counted", 10499, game, g -> g.time(0, true));
        Numbers.noSuchLap(12, (g, lap) -> g.time(lap, false));
        Numbers.noSuchLap(12, (g, lap) -> g.time(lap, true));
    }

    private static void ticks() {
        Sentence ticks = Sentence.of(13, "Returns how many inputs a lap has.", LAP,
                "Returns their number.");
        Ghostracer game = Games.ladder();
        for (int i = 0; i < 30; i++) {
            int lap = i;
            ticks.due("the lap " + i, 5 + i, game, g -> g.ticks(lap));
        }
        ticks.due("the least", 1, fastest(), g -> g.ticks(0));
        ticks.due("the most", 60, longest(), g -> g.ticks(0));
        ticks.due("those behind its end are not", 1, Games.lapOn(1, 9, 4, "+".repeat(60)),
                g -> g.ticks(0));
        Numbers.noSuchLap(13, (g, lap) -> g.ticks(lap));
    }

    private static void inputAt() {
        Sentence input = Sentence.of(14, "Returns an input of a lap.", LAP,
                "`tick`: the tick, from 0", "Returns the input.");
        for (int lap = 0; lap < 30; lap++) {
            // A game for each lap, as all their inputs are more calls than an object has.
            Ghostracer game = Games.ladder();
            String word = "=".repeat(lap) + "+====";
            for (int i = 0; i < word.length(); i++) {
                int number = lap;
                int tick = i;
                input.due("lap " + lap + ", tick " + i, word.charAt(i), game,
                        g -> g.inputAt(number, tick));
            }
        }
        String longest = "-=".repeat(27) + "-+====";
        Ghostracer game = Games.lapOn(5, 1, 1, longest);
        for (int i = 0; i < 60; i++) {
            int tick = i;
            input.due("of sixty, tick " + i, longest.charAt(i), game, g -> g.inputAt(0, tick));
        }
        Sentence none = Sentence.thrown(14, Check.NO_ELEMENT, "there is none");
        none.refusesEach("of five, tick", Games::busy, (g, n) -> g.inputAt(0, n), LEAST, -257, -1,
                5, 6, 256, 65536, MOST);
        none.refusesEach("of one, tick", EdgesOfLaps::fastest, (g, n) -> g.inputAt(0, n), -1, 1, 2);
        none.refusesEach("of sixty, tick", EdgesOfLaps::longest, (g, n) -> g.inputAt(0, n), -1, 60,
                61);
        none.refuses("one that was typed behind the end",
                () -> Games.lapOn(1, 9, 4, "+".repeat(60)), g -> g.inputAt(0, 1));
        none.refuses("one that is typed now", Games::busy, g -> g.inputAt(4, 2));
        Numbers.noSuchLap(14, (g, lap) -> g.inputAt(lap, 0));
    }

    private static void replay() {
        Sentence replay = Sentence.of(15, "Returns where a lap was, or how fast.", LAP,
                "`tick`: behind how many ticks",
                "`isSpeed`: whether the speed is meant, otherwise the place",
                "Returns the number.");
        Ghostracer game = Games.ladder();
        for (int i = 0; i < 30; i++) {
            int lap = i;
            replay.due("begin, the place of " + i, 0, game, g -> g.replay(lap, 0, false));
            replay.due("begin, the speed of " + i, 0, game, g -> g.replay(lap, 0, true));
            replay.due("standing, the place of " + i, 0, game, g -> g.replay(lap, lap, false));
            replay.due("going, the place of " + i, 2, game, g -> g.replay(lap, lap + 2, false));
            replay.due("going, the speed of " + i, 1, game, g -> g.replay(lap, lap + 2, true));
            replay.due("end, the place of " + i, 5, game, g -> g.replay(lap, lap + 5, false));
            replay.due("end, the speed of " + i, 1, game, g -> g.replay(lap, lap + 5, true));
        }
        replay.due("struck out", 5, Games.busy(), g -> g.replay(2, 6, false));
        replay.due("another track and car, the place", 12, Games.busy(),
                g -> g.replay(4, 2, false));
        replay.due("another track and car, the speed", 8, Games.lapOn(20, 9, 4, "+++"),
                g -> g.replay(0, 2, true));
        Ghostracer asked = Games.busy();
        asked.replay(0, 5, false);
        replay.due("what is typed stays", 4, asked, g -> g.wipe());
        Sentence fewer = Sentence.thrown(15, Check.NO_ELEMENT,
                "it has fewer ticks, or the number is below 0");
        fewer.refusesEach("of five, the place at", Games::busy, (g, n) -> g.replay(0, n, false),
                LEAST, -257, -1, 6, 7, 256, 65536, MOST);
        fewer.refusesEach("of five, the speed at", Games::busy, (g, n) -> g.replay(0, n, true),
                LEAST, -1, 6, MOST);
        fewer.refusesEach("of one", EdgesOfLaps::fastest, (g, n) -> g.replay(0, n, false), -1, 2);
        fewer.refusesEach("of sixty", EdgesOfLaps::longest, (g, n) -> g.replay(0, n, true), -1, 61);
        Numbers.noSuchLap(15, (g, lap) -> g.replay(lap, 0, false));
        Numbers.noSuchLap(15, (g, lap) -> g.replay(lap, 5, true));
    }

    private static void replayToTheEnd() {
        Sentence replay = Sentence.of(15, "`tick`: behind how many ticks");
        Ghostracer game = longest();
        for (int i = 0; i <= 60; i++) {
            int tick = i;
            replay.due("of sixty, the place at " + i, i, game, g -> g.replay(0, tick, false));
            replay.due("of sixty, the speed at " + i, i == 0 ? 0 : 1, game,
                    g -> g.replay(0, tick, true));
        }
        replay.due("of one, the place", 4, fastest(), g -> g.replay(0, 1, false));
        replay.due("of one, the speed", 4, fastest(), g -> g.replay(0, 1, true));
    }

    private static void of() {
        Sentence of = Sentence.of(16, "Returns something of a lap.", LAP, "`what`: 'd' the driver,"
                + " 't' the track, 'c' the car, 'g' the ghost, 'r' the round, -1 for none",
                "Returns the number.");
        Ghostracer game = Games.ladder();
        for (int i = 0; i < 30; i++) {
            int lap = i;
            of.due("the driver of " + i, i % 6, game, g -> g.of(lap, 'd'));
            of.due("the track of " + i, 0, game, g -> g.of(lap, 't'));
            of.due("the car of " + i, 0, game, g -> g.of(lap, 'c'));
            of.due("the ghost of " + i, i - 1, game, g -> g.of(lap, 'g'));
            of.due("the round of " + i, i / 3, game, g -> g.of(lap, 'r'));
        }
        Ghostracer last = new Ghostracer();
        for (int i = 0; i < 4; i++) {
            last.track();
            last.stretch(i, 1, 1);
            last.car(9, 4, 0);
        }
        last.type('+', 1);
        last.drive(5, 3, 2, -1);
        of.due("the last track", 3, last, g -> g.of(0, 't'));
        of.due("the last car but one", 2, last, g -> g.of(0, 'c'));
        of.due("the last driver", 5, last, g -> g.of(0, 'd'));
        of.due("no ghost", -1, last, g -> g.of(0, 'g'));
        of.due("no round", -1, last, g -> g.of(0, 'r'));
        of.due("a ghost that is no base", 5, Games.chain(), g -> {
            Games.drive(g, "+====", 0, 5);
            return g.of(6, 'g');
        });
        of.due("a ghost that is struck out", 2, Games.busy(), g -> g.of(3, 'g'));
    }

    private static void ofRounds() {
        Sentence of = Sentence.of(16, "`what`: 'd' the driver,"
                + " 't' the track, 'c' the car, 'g' the ghost, 'r' the round, -1 for none");
        Ghostracer game = Games.busy();
        of.due("the open round, on its track", 1, game, g -> g.of(4, 'r'));
        of.due("the round before", 0, game, g -> g.of(0, 'r'));
        Games.type(game, "++");
        of.due("a lap on another track", 5, game, g -> g.drive(0, 0, 0, -1));
        of.due("is of none", -1, game, g -> g.of(5, 'r'));
        game.shut();
        Games.type(game, "++++");
        of.due("a lap behind the shut round", 6, game, g -> g.drive(0, 1, 1, -1));
        of.due("is of none as well", -1, game, g -> g.of(6, 'r'));
        of.due("those of the shut round stay", 1, game, g -> g.of(4, 'r'));
    }

    private static void ofIsRefused() {
        Sentence thrown = Sentence.thrown(16, Check.ARGUMENT, "there is no such thing");
        Ghostracer game = Games.busy();
        for (int i = 0; i <= 0xffff; i++) {
            char what = (char) i;
            if ("dtcgr".indexOf(what) < 0) {
                thrown.due("the sign " + i, Check.ARGUMENT, game, g -> g.of(0, what));
            }
            game = i % 256 == 255 ? Games.busy() : game;
        }
        char[] signs = {0, 'D', 'T', 'C', 'G', 'R', 'a', 'b', 'e', 's', 256 + 'd', 256 + 'r',
            0xffff};
        for (char what : signs) {
            thrown.refuses("the sign " + (int) what, Games::busy, g -> g.of(3, what));
        }
        for (char what : "dtcgr".toCharArray()) {
            Numbers.noSuchLap(16, (g, lap) -> g.of(lap, what));
        }
    }

    private static void beats() {
        Sentence beats = Sentence.of(17, "Tells whether a lap beats its ghost.", LAP,
                "Returns true if so.");
        Ghostracer game = Games.five();
        Games.drive(game, "==+====", 0, -1);
        Games.drive(game, "=+====", 0, 0);
        for (int i = 2; i < 30; i++) {
            Games.drive(game, "=+====", 0, i - 1);
        }
        beats.due("less", true, game, g -> g.beats(1));
        beats.due("as much", false, game, g -> g.beats(29));
        game.penalty(28, 1);
        beats.due("one less", true, game, g -> g.beats(29));
        beats.due("one more", false, game, g -> g.beats(28));
        game.penalty(29, 1);
        beats.due("as much by penalties", false, game, g -> g.beats(29));
        game.penalty(29, 2);
        beats.due("one more by penalties", false, game, g -> g.beats(29));
        Sentence none = Sentence.thrown(17, Check.NO_ELEMENT, "it has none");
        none.refuses("the first", Games::ladder, g -> g.beats(0));
        none.refuses("the last", Games::busy, g -> g.beats(4));
        none.due("a ghost of the number 0 is one", false, Games.ladder(), g -> g.beats(1));
        none.due("stored whole, with a ghost of the depth 5", false, Games.ladder(),
                g -> g.beats(6));
        Numbers.noSuchLap(17, (g, lap) -> g.beats(lap));
    }

    private static void least() {
        Sentence least = Sentence.of(18, "Returns the lap of a track that stands and counts with"
                + " least, of several the one with the lower number.",
                "`track`: the number of the track", "Returns the number of the lap.");
        Ghostracer alike = Games.fullOfLaps();
        for (int i = 0; i < 29; i++) {
            int lap = i;
            least.due("of several", i, alike, g -> g.least(0));
            least.due("strike it", 0, alike, g -> g.strike(lap));
        }
        least.due("the last that stands", 29, alike, g -> g.least(0));
        alike.giveBack(14);
        least.due("given back", 14, alike, g -> g.least(0));
        alike.penalty(14, 1);
        least.due("one more by its penalty", 29, alike, g -> g.least(0));
        alike.penalty(29, 1);
        least.due("as much again", 14, alike, g -> g.least(0));
        alike.penalty(29, 0);
        alike.penalty(14, 0);
        least.due("as much without penalties", 14, alike, g -> g.least(0));
        Ghostracer busy = Games.busy();
        least.due("the smallest track", 0, busy, g -> g.least(0));
        least.due("another track", 4, busy, g -> g.least(1));
        least.due("the largest track", 0, onTheLastTrack(), g -> g.least(3));
        Sentence none = Sentence.thrown(18, Check.NO_ELEMENT, "there is none");
        none.refuses("no lap on it", Games::five, g -> g.least(0));
        none.refuses("no stretches", Games::busy, g -> g.least(2));
        none.refuses("none stands", EdgesOfLaps::struckOut, g -> g.least(0));
        none.refuses("only on another", EdgesOfLaps::onTheLastTrack, g -> g.least(0));
        Numbers.noSuchTrack(18, (g, track) -> g.least(track));
    }

    private static Ghostracer onTheLastTrack() {
        Ghostracer game = Games.type(Games.fourTracks(), "+");
        game.stretch(3, 1, 9);
        game.drive(0, 3, 0, -1);
        return game;
    }

    private static Ghostracer struckOut() {
        Ghostracer game = Games.chain();
        for (int i = 0; i < 6; i++) {
            game.strike(i);
        }
        return game;
    }

    private static void termsOfInputs() {
        Sentence terms = Sentence.ofTerms("At most 60 inputs are typed for a lap; those behind its"
                + " end are no part of it.");
        Ghostracer game = Games.type(Games.five(), "=".repeat(55) + "+====");
        terms.due("a sixty-first", Check.STATE, game, g -> g.type('=', 1));
        terms.due("sixty", 0, game, g -> g.drive(0, 0, 0, -1));
        terms.due("sixty, its last input", '=', game, g -> g.inputAt(0, 59));
        terms.due("sixty, its parts", 60, game, g -> g.parts(0));
        Games.type(game, "+====" + "-".repeat(55));
        terms.due("five and 55 behind", 1, game, g -> g.drive(0, 0, 0, -1));
        terms.due("its inputs", 5, game, g -> g.ticks(1));
        terms.due("its parts", 5, game, g -> g.parts(1));
        terms.due("no sixth input", Check.NO_ELEMENT, game, g -> g.inputAt(1, 5));
        Games.type(game, "+====" + "=".repeat(55));
        terms.due("against those, others behind", 2, game, g -> g.drive(0, 0, 0, 1));
        terms.due("alike", 0, game, g -> g.parts(2));
        Games.drive(game, "=+====", 0, 1);
        // The base has '-' typed behind its end, and so no input there.
        terms.due("unlike twice, and one that the base has not", 3, game, g -> g.parts(3));
    }

    private static void termsOfKeeping() {
        Sentence terms = Sentence.ofTerms("A lap that is over is kept, with its driver, its car and"
                + " its ghost, a lap on the same track that stands, or none; at most 30 laps are"
                + " numbered from 0.");
        Ghostracer game = Games.type(Games.busy(), "++++");
        terms.due("struck out", Check.NO_ELEMENT, game, g -> g.drive(5, 0, 0, 2));
        terms.due("on another track", Check.NO_ELEMENT, game, g -> g.drive(5, 0, 0, 4));
        terms.due("on the same track", 5, game, g -> g.drive(5, 0, 1, 3));
        terms.due("its driver", 5, game, g -> g.of(5, 'd'));
        terms.due("its car", 1, game, g -> g.of(5, 'c'));
        terms.due("its ghost", 3, game, g -> g.of(5, 'g'));
        game.strike(3);
        terms.due("its ghost stays when it is struck out", 3, game, g -> g.of(5, 'g'));
        Ghostracer full = Games.five();
        for (int i = 0; i < 31; i++) {
            Games.type(full, "+++++");
            terms.due("thirty, " + i, i < 30 ? (Object) i : Check.STATE, full,
                    g -> g.drive(0, 0, 0, -1));
        }
    }

    private static void termsOfCounting() {
        Sentence terms = Sentence.ofTerms(
                "A lap counts with its time and its penalty, 0 at first.");
        Ghostracer game = Games.ladder();
        for (int i = 0; i < 30; i++) {
            int lap = i;
            terms.due("0 at first, the lap " + i, 0, game, g -> g.penalty(lap, 9999 - lap));
            terms.due("the lap " + i, 500 + 100 * i + 9999 - i, game, g -> g.time(lap, true));
        }
        terms.due("the mean is by penalties", 1950.0 + 9999.0 - 14.5, game, g -> g.meanTime());
    }

    private static void termsOfBeating() {
        Sentence terms = Sentence.ofTerms("It beats its ghost if it counts with less, by penalties"
                + " as they are, and whether or not either stands.");
        for (int ghost = 0; ghost <= 2; ghost++) {
            for (int own = 0; own <= 2; own++) {
                Ghostracer game = Games.chain();
                game.penalty(0, 5000 + ghost);
                game.penalty(1, 5000 + own);
                boolean due = own < ghost;
                String what = "the ghost's " + ghost + ", its own " + own;
                terms.due(what, due, game, g -> g.beats(1));
                game.strike(0);
                terms.due(what + ", the ghost struck out", due, game, g -> g.beats(1));
                game.strike(1);
                terms.due(what + ", both struck out", due, game, g -> g.beats(1));
                game.giveBack(0);
                terms.due(what + ", itself struck out", due, game, g -> g.beats(1));
                game.penalty(0, 0);
                game.penalty(1, 0);
                terms.due(what + ", no more", false, game, g -> g.beats(1));
            }
        }
    }
}
