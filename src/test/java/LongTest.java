/**
 * Games of just 512 calls: laps struck out of the middle of chains and given back, bases struck out
 * later, rounds that are shut and told anew, dropped rounds, and each method as the last call. What
 * is due is told by rules that hold for these games alone; ModelTest asks by the whole document.
 */
public final class LongTest {
    public static void main(String[] args) {
        new LongChains().play();
        new LongSeasons().play();
        tracksAndDriving();
        laps();
        storeAndSteward();
        seasons();
        figures();
        Check.end("LongTest");
    }

    /** Two laps in a round, the second one against the first, and a third one that is typed. */
    private static void last(String call, Object want, Check.Call asked) {
        LongGame game = new LongGame("a game that ends with " + call);
        game.begin();
        game.due("round", 0, g -> g.round(0));
        game.drive(0, 0, 0, -1);
        game.drive(1, 1, 1, 0);
        game.due("type", 5, g -> g.type('+', 5));
        game.end(2, call, want, asked);
    }

    private static void tracksAndDriving() {
        last("track", 1, g -> g.track());
        last("stretch", Check.UNSUPPORTED, g -> g.stretch(0, 1, 1));
        last("car", 1, g -> g.car(9, 4, 3));
        last("lengthOf", 5, g -> g.lengthOf(0));
        last("limitAt", 9, g -> g.limitAt(0, 4));
        last("type", 6, g -> g.type('-', 1));
        last("wipe", 5, g -> g.wipe());
        last("drive", 2, g -> g.drive(2, 0, 0, 1));
        last("tryOut", 500, g -> g.tryOut(0, 0));
    }

    private static void laps() {
        last("laps", 2, g -> g.laps());
        last("time", 600, g -> g.time(1, true));
        last("ticks", 6, g -> g.ticks(1));
        last("inputAt", '+', g -> g.inputAt(1, 1));
        last("replay", 5, g -> g.replay(1, 6, false));
        last("of", 0, g -> g.of(1, 'g'));
        last("beats", false, g -> g.beats(1));
        last("least", 0, g -> g.least(0));
    }

    private static void storeAndSteward() {
        last("base", 0, g -> g.base(1));
        last("depth", 1, g -> g.depth(1));
        last("parts", 3, g -> g.parts(1));
        last("stored", 8, g -> g.stored());
        last("resting", 1, g -> g.resting(0));
        last("strike", 1, g -> g.strike(0));
        last("giveBack", Check.UNSUPPORTED, g -> g.giveBack(0));
        last("stands", true, g -> g.stands(0));
        last("penalty", 0, g -> g.penalty(0, 9999));
    }

    private static void seasons() {
        last("round", 1, g -> g.round(0));
        last("shut", 0, g -> g.shut());
        last("lapIn", 1, g -> g.lapIn(0, 1));
        last("placeIn", 2, g -> g.placeIn(0, 1));
        last("drop", 0, g -> g.drop(3));
        last("points", 8, g -> g.points(1));
        last("wins", 1, g -> g.wins(0));
        last("standing", 0, g -> g.standing(0));
    }

    private static void figures() {
        last("checksum", 23017L, g -> g.checksum());
        last("shareStored", 8.0f / 11.0f, g -> g.shareStored());
        last("meanTime", 550.0, g -> g.meanTime());
        last("isSound", true, g -> g.isSound());
    }
}
