/**
 * What is the same for every call that asks for a track, a lap, a driver or a round: the numbers
 * that there are not, the smallest and the largest int among them, and those that would be one that
 * there is if they were cut to a byte or a short.
 */
final class Numbers {
    private Numbers() {
    }

    /** Those calls that name no other number beside the track's as the cause. */
    static void noSuchTrack(int promise, Sentence.ByNumber call) {
        noSuchTrack(Sentence.thrown(promise, Check.INDEX, "there is no such track"), call);
    }

    static void noSuchTrack(Sentence sentence, Sentence.ByNumber call) {
        sentence.refusesEach("the track", Games::busy, call, Sentence.LEAST, -257, -1, 3, 4, 256,
                65536, Sentence.MOST);
        sentence.refusesEach("four tracks, the track", Games::fourTracks, call, 4, -1);
        sentence.refusesEach("a new object, the track", Ghostracer::new, call, -1, 0, 1);
    }

    static void noSuchCar(Sentence sentence, Sentence.ByNumber call) {
        sentence.refusesEach("the car", Games::busy, call, Sentence.LEAST, -257, -1, 2, 3, 4, 256,
                65536, Sentence.MOST);
        sentence.refusesEach("four cars, the car", Games::fourCars, call, 4, -1);
        sentence.refusesEach("no car, the car", Games::noCar, call, 0, -1);
    }

    static void noSuchLap(int promise, Sentence.ByNumber call) {
        Sentence sentence = Sentence.thrown(promise, Check.INDEX, "there is no such lap");
        sentence.refusesEach("the lap", Games::busy, call, Sentence.LEAST, -257, -1, 5, 6, 29, 30,
                256, 65536, Sentence.MOST);
        sentence.refusesEach("thirty laps, the lap", Games::ladder, call, 30, 31, -1);
        sentence.refusesEach("no laps, the lap", Games::five, call, 0, -1, 1);
        sentence.refusesEach("a new object, the lap", Ghostracer::new, call, 0, -1);
    }

    static void noSuchDriver(Sentence sentence, Sentence.ByNumber call) {
        sentence.refusesEach("the driver", Games::busy, call, Sentence.LEAST, -257, -1, 6, 7, 256,
                65536, Sentence.MOST);
        sentence.refusesEach("a full game, the driver", Games::ladder, call, 6, -1);
    }

    static void noSuchRound(Sentence sentence, Sentence.ByNumber call) {
        sentence.refusesEach("the round", Games::busy, call, Sentence.LEAST, -257, -1, 2, 3, 9, 10,
                256, 65536, Sentence.MOST);
        sentence.refusesEach("ten rounds, the round", Games::ladder, call, 10, 11, -1);
        sentence.refusesEach("no round, the round", Games::five, call, 0, -1);
    }
}
