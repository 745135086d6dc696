/** The document's first example, call by call. */
public final class ExampleTest {
    private static Ghostracer game;
    private static final StringBuilder ASKED = new StringBuilder();

    private static void due(String call, Object want, Check.Call asked) {
        Check.due(call, want, game, asked);
        ASKED.append(ASKED.length() == 0 ? "" : "; ").append(call + " = " + want);
    }

    public static void main(String[] args) {
        game = new Ghostracer();
        due("track()", 0, g -> g.track());
        due("stretch(0, 10, 4)", 10, g -> g.stretch(0, 10, 4));
        due("stretch(0, 6, 2)", 16, g -> g.stretch(0, 6, 2));
        due("car(6, 2, 1)", 0, g -> g.car(6, 2, 1));
        due("lengthOf(0)", 16, g -> g.lengthOf(0));
        due("limitAt(0, 10)", 2, g -> g.limitAt(0, 10));
        due("round(0)", 0, g -> g.round(0));
        due("type('+', 3)", 3, g -> g.type('+', 3));
        due("type('=', 3)", 6, g -> g.type('=', 3));
        due("tryOut(0, 0)", 434, g -> g.tryOut(0, 0));
        due("drive(0, 0, 0, -1)", 0, g -> g.drive(0, 0, 0, -1));
        due("time(0, false)", 434, g -> g.time(0, false));
        due("ticks(0)", 5, g -> g.ticks(0));
        due("replay(0, 2, false)", 6, g -> g.replay(0, 2, false));
        due("parts(0)", 5, g -> g.parts(0));
        due("type('+', 2)", 2, g -> g.type('+', 2));
        due("type('=', 10)", 12, g -> g.type('=', 10));
        due("drive(1, 0, 0, 0)", 1, g -> g.drive(1, 0, 0, 0));
        due("beats(1)", false, g -> g.beats(1));
        due("base(1)", 0, g -> g.base(1));
        due("depth(1)", 1, g -> g.depth(1));
        due("resting(0)", 1, g -> g.resting(0));
        due("inputAt(1, 4)", '=', g -> g.inputAt(1, 4));
        due("of(1, 'g')", 0, g -> g.of(1, 'g'));
        due("least(0)", 0, g -> g.least(0));
        due("laps()", 2, g -> g.laps());
        due("strike(0)", 1, g -> g.strike(0));
        due("stands(0)", false, g -> g.stands(0));
        due("parts(1)", 6, g -> g.parts(1));
        due("giveBack(0)", 2, g -> g.giveBack(0));
        due("penalty(0, 900)", 0, g -> g.penalty(0, 900));
        due("lapIn(0, 1)", 1, g -> g.lapIn(0, 1));
        due("placeIn(0, 0)", 2, g -> g.placeIn(0, 0));
        due("wins(1)", 1, g -> g.wins(1));
        due("standing(0)", 1, g -> g.standing(0));
        due("drop(1)", 0, g -> g.drop(1));
        due("points(1)", 0, g -> g.points(1));
        due("shut()", 0, g -> g.shut());
        due("stored()", 11, g -> g.stored());
        due("checksum()", 48874L, g -> g.checksum());
        due("shareStored()", 1.0f, g -> g.shareStored());
        due("meanTime()", 967.0, g -> g.meanTime());
        due("wipe()", 0, g -> g.wipe());
        due("isSound()", true, g -> g.isSound());
        Check.same("the document's example", Document.example(), ASKED.append('.'));
        Check.end("ExampleTest");
    }
}
