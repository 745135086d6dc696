import java.util.ArrayList;
import java.util.List;

/** The terms of exceptions, and how many calls an object is used for. */
final class EdgesOfExceptions {
    private EdgesOfExceptions() {
    }

    static void check() {
        Check.parts(EdgesOfExceptions::firstOfTracks, EdgesOfExceptions::firstOfTyping,
                EdgesOfExceptions::firstOfDriving, EdgesOfExceptions::firstOfTrying,
                EdgesOfExceptions::firstOfLaps, EdgesOfExceptions::firstOfTheSteward,
                EdgesOfExceptions::firstOfSeasons, EdgesOfExceptions::changesNothing,
                EdgesOfExceptions::askingChangesNothing, EdgesOfExceptions::manyCalls);
    }

    private static Sentence first() {
        return Sentence.ofTerms("If several exceptions apply, the one that is listed first is"
                + " thrown.");
    }

    /** Track 0 with twelve stretches and a lap, track 1 with twelve stretches alone, four cars. */
    private static Ghostracer full() {
        Ghostracer game = Games.fourCars();
        game.track();
        for (int i = 1; i < 12; i++) {
            game.stretch(0, 2, 9);
            game.stretch(1, 2, 9);
        }
        game.stretch(1, 2, 9);
        Games.type(game, "+".repeat(60));
        game.drive(0, 0, 1, -1);
        return game;
    }

    private static void firstOfTracks() {
        Sentence first = first();
        Check.Setup full = EdgesOfExceptions::full;
        first.refusesBy("promise 3: track, number", Check.INDEX, full, g -> g.stretch(2, 0, 5));
        first.refusesBy("promise 3: track, limit", Check.INDEX, full, g -> g.stretch(-1, 1, 10));
        first.refusesBy("promise 3: number, lap, twelve", Check.ARGUMENT, full,
                g -> g.stretch(0, 31, 5));
        first.refusesBy("promise 3: limit, lap, twelve", Check.ARGUMENT, full,
                g -> g.stretch(0, 1, 0));
        first.refusesBy("promise 3: number, lap", Check.ARGUMENT, Games::chain,
                g -> g.stretch(0, 0, 5));
        first.refusesBy("promise 3: number, twelve", Check.ARGUMENT, full,
                g -> g.stretch(1, 1, 10));
        first.refusesBy("promise 3: lap, twelve", Check.UNSUPPORTED, full,
                g -> g.stretch(0, 1, 1));
        first.refusesBy("promise 3: twelve alone", Check.STATE, full, g -> g.stretch(1, 1, 1));
        first.refusesBy("promise 4: top speed, four", Check.ARGUMENT, full, g -> g.car(10, 4, 3));
        first.refusesBy("promise 4: pull, four", Check.ARGUMENT, full, g -> g.car(9, 0, 3));
        first.refusesBy("promise 4: grip, four", Check.ARGUMENT, full, g -> g.car(9, 4, -1));
        first.refusesBy("promise 4: four alone", Check.STATE, full, g -> g.car(9, 4, 3));
        first.refusesBy("promise 6: track, place", Check.INDEX, full, g -> g.limitAt(2, -1));
        first.refusesBy("promise 6: place alone", Check.NO_ELEMENT, full, g -> g.limitAt(1, 24));
    }

    private static void firstOfTyping() {
        Sentence first = first();
        Check.Setup sixty = () -> EdgesOfDriving.typed(60);
        first.refusesBy("promise 7: input, sixty", Check.ARGUMENT, sixty, g -> g.type('*', 1));
        first.refusesBy("promise 7: times, sixty", Check.ARGUMENT, sixty, g -> g.type('+', 21));
        first.refusesBy("promise 7: no times, sixty", Check.ARGUMENT, sixty, g -> g.type('+', 0));
        first.refusesBy("promise 7: most times, sixty", Check.ARGUMENT, sixty,
                g -> g.type('+', Sentence.MOST));
        first.refusesBy("promise 7: sixty alone", Check.STATE, sixty, g -> g.type('+', 1));
    }

    /** Thirty laps on the track 0, the last struck out; the track 1 has no stretches. */
    private static Ghostracer thirty() {
        Ghostracer game = Games.ladder();
        game.strike(29);
        game.track();
        return game;
    }

    private static Ghostracer thirtyTyped() {
        return Games.type(thirty(), "+++++");
    }

    private static void firstOfDriving() {
        Sentence first = first();
        Check.Setup bare = EdgesOfExceptions::thirty;
        Check.Setup typed = EdgesOfExceptions::thirtyTyped;
        int none = Sentence.LEAST;
        first.refusesBy("promise 9: driver, all", Check.INDEX, bare, g -> g.drive(6, 1, 0, none));
        first.refusesBy("promise 9: track, all", Check.INDEX, bare, g -> g.drive(0, 2, 0, none));
        first.refusesBy("promise 9: car, all", Check.INDEX, bare, g -> g.drive(0, 1, 1, none));
        first.refusesBy("promise 9: car, ghost", Check.INDEX, Games::busy,
                g -> g.drive(0, 0, 2, 2));
        first.refusesBy("promise 9: driver, stretches", Check.INDEX, Games::busy,
                g -> g.drive(6, 2, 0, -1));
        first.refusesBy("promise 9: car, over", Check.INDEX, Games::busy,
                g -> g.drive(0, 0, -1, -1));
        first.refusesBy("promise 9: driver, thirty", Check.INDEX, typed,
                g -> g.drive(-1, 0, 0, -1));
        first.refusesBy("promise 9: ghost, stretches, thirty", Check.NO_ELEMENT, bare,
                g -> g.drive(0, 1, 0, 0));
        first.refusesBy("promise 9: ghost, over, thirty", Check.NO_ELEMENT, bare,
                g -> g.drive(0, 0, 0, 29));
        first.refusesBy("promise 9: ghost, over", Check.NO_ELEMENT, Games::busy,
                g -> g.drive(0, 0, 0, 2));
        first.refusesBy("promise 9: ghost, stretches", Check.NO_ELEMENT, Games::busy,
                g -> g.drive(0, 2, 0, 0));
        first.refusesBy("promise 9: ghost, thirty", Check.NO_ELEMENT, typed,
                g -> g.drive(0, 0, 0, 29));
        first.refusesBy("promise 9: stretches, thirty", Check.UNSUPPORTED, typed,
                g -> g.drive(0, 1, 0, -1));
        first.refusesBy("promise 9: over, thirty", Check.UNSUPPORTED, bare,
                g -> g.drive(0, 0, 0, 28));
        first.refusesBy("promise 9: thirty alone", Check.STATE, typed, g -> g.drive(0, 0, 0, 28));
    }

    private static void firstOfTrying() {
        Sentence first = first();
        Check.Setup bare = EdgesOfExceptions::thirty;
        first.refusesBy("promise 10: track, over", Check.INDEX, bare, g -> g.tryOut(2, 0));
        first.refusesBy("promise 10: car, over", Check.INDEX, bare, g -> g.tryOut(0, 1));
        first.refusesBy("promise 10: car, stretches", Check.INDEX, bare, g -> g.tryOut(1, -1));
        first.refusesBy("promise 10: stretches alone", Check.UNSUPPORTED, bare,
                g -> g.tryOut(1, 0));
    }

    private static void firstOfLaps() {
        Sentence first = first();
        Check.Setup busy = Games::busy;
        first.refusesBy("promise 14: lap, tick", Check.INDEX, busy, g -> g.inputAt(5, -1));
        first.refusesBy("promise 14: lap, most", Check.INDEX, busy,
                g -> g.inputAt(-1, Sentence.MOST));
        first.refusesBy("promise 15: lap, tick", Check.INDEX, busy, g -> g.replay(5, -1, true));
        first.refusesBy("promise 15: lap, most", Check.INDEX, busy,
                g -> g.replay(-1, Sentence.MOST, false));
        first.refusesBy("promise 16: lap, thing", Check.INDEX, busy, g -> g.of(5, 'x'));
        first.refusesBy("promise 16: no laps, thing", Check.INDEX, Games::five, g -> g.of(0, 'D'));
        first.refusesBy("promise 17: lap, ghost", Check.INDEX, busy, g -> g.beats(5));
        first.refusesBy("promise 18: track, none", Check.INDEX, Games::five, g -> g.least(1));
        first.refusesBy("promise 19: lap, whole", Check.INDEX, busy, g -> g.base(-1));
    }

    private static void firstOfTheSteward() {
        Sentence first = first();
        Check.Setup busy = Games::busy;
        first.refusesBy("promise 24: lap, struck out", Check.INDEX, busy, g -> g.strike(5));
        first.refusesBy("promise 25: lap, stands", Check.INDEX, busy, g -> g.giveBack(5));
        first.refusesBy("promise 27: lap, number", Check.INDEX, busy, g -> g.penalty(5, -1));
        first.refusesBy("promise 27: lap below, number", Check.INDEX, busy,
                g -> g.penalty(-1, 10000));
    }

    private static void firstOfSeasons() {
        Sentence first = first();
        Check.Setup ladder = Games::ladder;
        first.refusesBy("promise 28: track, ten", Check.INDEX, ladder, g -> g.round(1));
        first.refusesBy("promise 28: track below, ten", Check.INDEX, ladder, g -> g.round(-1));
        first.refusesBy("promise 28: ten alone", Check.STATE, ladder, g -> g.round(0));
        first.refusesBy("promise 30: round, none", Check.INDEX, ladder, g -> g.lapIn(10, 3));
        first.refusesBy("promise 30: driver, none", Check.INDEX, ladder, g -> g.lapIn(0, 6));
        first.refusesBy("promise 30: none alone", Check.NO_ELEMENT, ladder, g -> g.lapIn(0, 3));
        first.refusesBy("promise 31: round, none", Check.INDEX, ladder, g -> g.placeIn(-1, 3));
        first.refusesBy("promise 31: driver, none", Check.INDEX, ladder, g -> g.placeIn(9, -1));
        first.refusesBy("promise 31: none alone", Check.NO_ELEMENT, ladder,
                g -> g.placeIn(0, 3));
    }

    /** A call for each exception of each promise that a game can be refused with while busy. */
    private static Check.Call[] refusedCalls() {
        return new Check.Call[] {g -> g.stretch(3, 1, 1), g -> g.stretch(2, 31, 1),
            g -> g.stretch(0, 1, 1), g -> g.car(10, 1, 1), g -> g.lengthOf(3),
            g -> g.limitAt(3, 0), g -> g.limitAt(0, 5), g -> g.type('x', 1), g -> g.type('-', 21),
            g -> g.drive(6, 0, 0, -1), g -> g.drive(0, 0, 0, 2), g -> g.drive(0, 0, 0, -1),
            g -> g.drive(0, 2, 0, -1), g -> g.tryOut(3, 0), g -> g.tryOut(0, 0),
            g -> g.tryOut(2, 1), g -> g.time(5, true), g -> g.ticks(5), g -> g.inputAt(5, 0),
            g -> g.inputAt(0, 5), g -> g.replay(5, 0, true), g -> g.replay(0, 6, false),
            g -> g.of(5, 'd'), g -> g.of(0, 'x'), g -> g.beats(5), g -> g.beats(0),
            g -> g.least(3), g -> g.least(2), g -> g.base(5), g -> g.base(0), g -> g.depth(5),
            g -> g.parts(5), g -> g.resting(5), g -> g.strike(5), g -> g.strike(2),
            g -> g.giveBack(5), g -> g.giveBack(1), g -> g.stands(5), g -> g.penalty(5, 1),
            g -> g.penalty(1, 10000), g -> g.round(3), g -> g.lapIn(2, 0), g -> g.lapIn(0, 5),
            g -> g.placeIn(0, 6), g -> g.placeIn(0, 2), g -> g.drop(4), g -> g.points(6),
            g -> g.wins(6), g -> g.standing(6)};
    }

    /** All of them, one behind the other, and then what a game tells that was spared them. */
    private static void changesNothing() {
        Sentence nothing = Sentence.ofTerms("A method that throws an exception changes nothing.");
        nothing.refusesBy("all refused calls, and one more", Check.INDEX, Games::busy, g -> {
            for (Check.Call call : refusedCalls()) {
                boolean isRefused = Check.answerOf(g, call).startsWith("throws.");
                nothing.same("each is refused", true, isRefused);
            }
            return g.ticks(-1);
        });
        List<Check.Call> calls = new ArrayList<>(List.of(refusedCalls()));
        for (int i = 0; i < calls.size(); i++) {
            String want = Check.answerOf(Games.busy(), calls.get(i));
            nothing.refusesBy("refused call " + i, want, Games::busy, calls.get(i));
        }
    }

    /** What asks alone is no state change that the document describes. */
    private static void askingChangesNothing() {
        Check.Call[] asking = {g -> g.lengthOf(0), g -> g.limitAt(1, 6), g -> g.tryOut(0, 1),
            g -> g.laps(), g -> g.time(4, true), g -> g.ticks(4), g -> g.inputAt(4, 1),
            g -> g.replay(4, 2, false), g -> g.of(4, 'r'), g -> g.beats(3), g -> g.least(1),
            g -> g.base(3), g -> g.depth(3), g -> g.parts(3), g -> g.stored(), g -> g.resting(0),
            g -> g.stands(2), g -> g.lapIn(1, 3), g -> g.placeIn(0, 1), g -> g.points(0),
            g -> g.wins(0), g -> g.standing(0), g -> g.checksum(), g -> g.shareStored(),
            g -> g.meanTime(), g -> g.isSound()};
        for (int i = 0; i < asking.length; i++) {
            boolean isRefused = Check.answerOf(Games.busy(), asking[i]).startsWith("throws.");
            Check.same("question " + i + " is refused", false, isRefused);
            Check.unchanged("question " + i, Games::busy, asking[i]);
        }
        Check.unchanged("all questions", Games::busy, g -> {
            for (Check.Call call : asking) {
                call.answer(g);
            }
            return "";
        });
    }

    /** The last of the 512 calls is a call as all others are. */
    private static void manyCalls() {
        Sentence many = Sentence.ofSection("What it is", "An object is used for at most 512 calls"
                + " after it has been made");
        Ghostracer game = Games.five();
        many.due("the fourth call", 0, game, g -> g.laps());
        int calls = 4;
        for (int i = 0; i < 29; i++) {
            Games.type(game, "+++++");
            game.drive(i % 6, 0, 0, i - 1);
            calls += 2;
        }
        while (calls < 510) {
            many.due("behind the calls " + calls, 5, game, g -> g.type('=', 5));
            many.due("behind one more", 5, game, g -> g.wipe());
            calls += 2;
        }
        many.due("the 511th", 5, game, g -> g.type('+', 5));
        many.due("the 512th drives the thirtieth lap", 29, game, g -> g.drive(5, 0, 0, 28));
    }
}
