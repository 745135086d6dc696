import java.math.BigInteger;

/** Promises 36 to 39, a check for each sentence's edges. */
final class EdgesOfFigures {
    private EdgesOfFigures() {
    }

    static void check() {
        Check.parts(EdgesOfFigures::checksum, EdgesOfFigures::checksumWraps,
                EdgesOfFigures::shareStored, EdgesOfFigures::meanTime, EdgesOfFigures::isSound,
                EdgesOfFigures::isNotSound);
    }

    /** The sum that is due, without a bound, cut to a long at the end alone. */
    private static long sum(Ghostracer game, int laps) {
        BigInteger sum = BigInteger.valueOf(7);
        for (int i = 0; i < laps; i++) {
            int lap = game.time(i, true) + game.parts(i) + (game.stands(i) ? 1 : 0);
            sum = sum.multiply(BigInteger.valueOf(31)).add(BigInteger.valueOf(lap));
        }
        return sum.longValue();
    }

    private static Sentence ofChecksum() {
        return Sentence.of(36, "Returns a sum over all laps.", "Returns 7 at first, then for each"
                + " lap, in one step, 31 times itself plus its time, plus its penalty, plus its"
                + " parts, plus 1 if it stands.");
    }

    private static void checksum() {
        Sentence checksum = ofChecksum();
        checksum.due("a new object", 7L, new Ghostracer(), g -> g.checksum());
        checksum.due("no laps", 7L, Games.type(Games.five(), "+===="), g -> g.checksum());
        Ghostracer game = Games.lapOn(1, 9, 4, "+");
        checksum.due("the least, 217 + 25 + 1 + 1", 244L, game, g -> g.checksum());
        game.strike(0);
        checksum.due("struck out", 243L, game, g -> g.checksum());
        game.penalty(0, 9999);
        checksum.due("with the worst penalty", 10242L, game, g -> g.checksum());
        game.giveBack(0);
        checksum.due("given back", 10243L, game, g -> g.checksum());
        Games.drive(game, "+", 0, 0);
        checksum.due("a lap of no parts", 31L * 10243 + 25 + 1, game, g -> g.checksum());
        game.strike(0);
        checksum.due("whole, as its base is struck out", 31L * 10242 + 25 + 1 + 1, game,
                g -> g.checksum());
        checksum.due("a penalty in the middle", sum(Games.busy(), 5), Games.busy(),
                g -> g.checksum());
    }

    /** From the eleventh lap on the sum can't be told by a long without wrapping around. */
    private static void checksumWraps() {
        Sentence checksum = ofChecksum();
        boolean isNegative = false;
        for (int i = 1; i <= 30; i++) {
            Ghostracer game = punished(i);
            long due = sum(game, i);
            checksum.due("of so many laps, " + i, due, game, g -> g.checksum());
            isNegative = isNegative || due < 0;
        }
        checksum.same("it was below 0", true, isNegative);
        Ghostracer ladder = Games.ladder();
        ladder.strike(0);
        ladder.strike(29);
        checksum.due("thirty laps, two struck out", sum(ladder, 30), ladder, g -> g.checksum());
    }

    /** So many laps of sixty inputs with the worst penalty, each second one without parts. */
    private static Ghostracer punished(int laps) {
        Ghostracer game = Games.five();
        for (int i = 0; i < laps; i++) {
            Games.drive(game, "=".repeat(55) + "+====", 0, i % 2 == 0 ? -1 : i - 1);
            game.penalty(i, 9999);
        }
        return game;
    }

    private static void shareStored() {
        Sentence share = Sentence.of(37, "Returns what share of all inputs is stored.",
                "Returns the parts of all laps divided by their inputs, both converted to float.");
        share.due("the least lap", 1.0f, Games.lapOn(1, 9, 4, "+"), g -> g.shareStored());
        Ghostracer game = Games.lapOn(1, 9, 4, "+");
        for (int i = 2; i <= 30; i++) {
            Games.drive(game, "+", 0, 0);
            share.due("one part of " + i, 1.0f / (float) i, game, g -> g.shareStored());
        }
        share.due("all that stand have none", 1.0f, game, g -> {
            g.strike(0);
            return g.shareStored();
        });
        Ghostracer most = Games.five();
        for (int i = 0; i < 30; i++) {
            Games.drive(most, "=".repeat(55) + "+====", 0, i - 1);
        }
        share.due("300 of 1800", 300.0f / 1800.0f, most, g -> g.shareStored());
        share.due("in a row", 160.0f / 585.0f, Games.ladder(), g -> g.shareStored());
        share.due("all struck out", 1.0f, struckOut(), g -> g.shareStored());
        Sentence none = Sentence.thrown(37, Check.NO_ELEMENT, "there are no laps");
        none.refuses("a new object", Ghostracer::new, g -> g.shareStored());
        none.refuses("a track, a car and inputs", () -> Games.type(Games.five(), "+===="),
                g -> g.shareStored());
        none.refuses("a round", () -> {
            Ghostracer round = Games.five();
            round.round(0);
            return round;
        }, g -> g.shareStored());
    }

    private static Ghostracer struckOut() {
        Ghostracer game = Games.chain();
        for (int i = 0; i < 6; i++) {
            game.strike(i);
        }
        return game;
    }

    private static void meanTime() {
        Sentence mean = Sentence.of(38, "Returns the mean of what laps that stand count with.",
                "Returns the sum divided by their number, both converted to double.");
        mean.due("the least", 25.0, Games.lapOn(1, 9, 4, "+"), g -> g.meanTime());
        Ghostracer most = Games.five();
        for (int i = 0; i < 30; i++) {
            Games.drive(most, "=".repeat(55) + "+====", 0, -1);
            most.penalty(i, 9999);
        }
        mean.due("the most", 15999.0, most, g -> g.meanTime());
        most.penalty(29, 0);
        mean.due("one without penalty", 469971.0 / 30.0, most, g -> g.meanTime());
        Ghostracer game = Games.ladder();
        double sum = 58500.0;
        for (int i = 0; i < 29; i++) {
            mean.due("of those from " + i, sum / (30 - i), game, g -> g.meanTime());
            sum -= 500 + 100 * i;
            game.strike(i);
        }
        mean.due("the last that stands", 3400.0, game, g -> g.meanTime());
        mean.due("its penalty", 3401.0, game, g -> {
            g.penalty(29, 1);
            return g.meanTime();
        });
        mean.due("penalties of those struck out are nothing", 3401.0, game, g -> {
            g.penalty(0, 9999);
            return g.meanTime();
        });
        mean.due("a third", 1702.0 / 3.0, thirds(), g -> g.meanTime());
        Sentence none = Sentence.thrown(38, Check.NO_ELEMENT, "there are none");
        none.refuses("a new object", Ghostracer::new, g -> g.meanTime());
        none.refuses("no laps", Games::five, g -> g.meanTime());
        none.refuses("none stands", EdgesOfFigures::struckOut, g -> g.meanTime());
        none.due("one was given back", 500.0, struckOut(), g -> {
            g.giveBack(0);
            return g.meanTime();
        });
    }

    private static Ghostracer thirds() {
        Ghostracer game = Games.five();
        Games.drive(game, "+====", 0, -1);
        Games.drive(game, "+====", 0, -1);
        Games.drive(game, "=+====", 0, -1);
        game.penalty(1, 102);
        return game;
    }

    private static final String SOUND = "Tells whether each lap, driven again by its inputs, has"
            + " its time; no lap is stored against one that is struck out; and depths are at most"
            + " 5.";

    private static void isSound() {
        Sentence sound = Sentence.of(39, SOUND, "Returns true if so.");
        sound.due("a new object", true, new Ghostracer(), g -> g.isSound());
        sound.due("a track and a car", true, Games.five(), g -> g.isSound());
        sound.due("the depth 5", true, Games.chain(), g -> g.isSound());
        sound.due("thirty laps", true, Games.ladder(), g -> g.isSound());
        sound.due("two tracks and cars, one struck out", true, Games.busy(), g -> g.isSound());
        sound.due("all struck out", true, struckOut(), g -> g.isSound());
        sound.due("penalties are no part of the time", true, Games.chain(), g -> {
            g.penalty(0, 9999);
            return g.isSound();
        });
        sound.due("of sixty inputs", true, Games.lapOn(60, 1, 1, "+".repeat(60)),
                g -> g.isSound());
        sound.due("of one input", true, Games.lapOn(1, 9, 4, "+".repeat(60)), g -> g.isSound());
        Ghostracer asked = Games.busy();
        sound.due("asked while four are typed", true, asked, g -> g.isSound());
        sound.due("they stay typed", 4, asked, g -> g.wipe());
    }

    /** No call can make a game that is not sound, so that its rows are changed from outside. */
    private static void isNotSound() {
        Sentence sound = Sentence.of(39, SOUND);
        for (int i = 0; i < 6; i++) {
            Ghostracer faster = Games.chain();
            Tamper.set(faster, i, "time", 499);
            sound.due("not its time, " + i, false, faster, g -> g.isSound());
            Tamper.set(faster, i, "time", 500 + (i == 5 ? 100 : 0));
            sound.due("its time again, " + i, true, faster, g -> g.isSound());
            Ghostracer shorter = Games.chain();
            Tamper.set(shorter, i, "ticks", 4);
            sound.due("not over, " + i, false, shorter, g -> g.isSound());
            Ghostracer struck = Games.chain();
            Tamper.set(struck, i, "stands", false);
            sound.due("stored against one that is struck out, " + i, i == 5, struck,
                    g -> g.isSound());
            Ghostracer deeper = Games.chain();
            Tamper.set(deeper, i, "depth", 6);
            sound.due("a depth of 6, " + i, false, deeper, g -> g.isSound());
            Tamper.set(deeper, i, "depth", 5);
            sound.due("a depth of 5, " + i, true, deeper, g -> g.isSound());
        }
    }
}
