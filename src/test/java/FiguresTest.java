/** Promises 36 to 39. */
public final class FiguresTest {
    public static void main(String[] args) {
        checksum();
        shareStored();
        meanTime();
        isSound();
        Check.end("FiguresTest");
    }

    private static void checksum() {
        Ghostracer game = Games.five();
        Check.due("7 at first", 7L, game, g -> g.checksum());
        Games.drive(game, "+====", 0, -1);
        Check.due("31 * 7 + 500 + 5 + 1", 723L, game, g -> g.checksum());
        game.penalty(0, 20);
        Check.due("with the penalty", 743L, game, g -> g.checksum());
        game.strike(0);
        Check.due("struck out", 742L, game, g -> g.checksum());
        game.giveBack(0);
        Games.drive(game, "=+====", 0, 0);
        Check.due("31 * 743 + 600 + 3 + 1", 23637L, game, g -> g.checksum());
        game.strike(0);
        Check.due("31 * 742 + 600 + 6 + 1", 23609L, game, g -> g.checksum());
        long due = 7;
        for (int i = 0; i < 30; i++) {
            due = 31 * due + 500 + 5 + 1;
        }
        Check.due("thirty laps, with a long's wrap-around", due, Games.fullOfLaps(),
                g -> g.checksum());
    }

    private static void shareStored() {
        Ghostracer game = Games.five();
        Check.refused("no laps", Check.NO_ELEMENT, Games::five, g -> g.shareStored());
        Games.drive(game, "+====", 0, -1);
        Check.due("all", 1.0f, game, g -> g.shareStored());
        Games.drive(game, "=+====", 0, 0);
        Check.due("8 of 11", 8.0f / 11.0f, game, g -> g.shareStored());
        game.strike(1);
        Check.due("8 of 11, struck out or not", 8.0f / 11.0f, game, g -> g.shareStored());
        game.strike(0);
        Check.due("none stands, but all are stored", 1.0f, game, g -> g.shareStored());
    }

    private static Ghostracer allStruck() {
        Ghostracer game = Games.chain();
        for (int i = 0; i < 6; i++) {
            game.strike(i);
        }
        return game;
    }

    private static void meanTime() {
        Ghostracer game = Games.five();
        Check.refused("no laps", Check.NO_ELEMENT, Games::five, g -> g.meanTime());
        Check.refused("none stands", Check.NO_ELEMENT, FiguresTest::allStruck, g -> g.meanTime());
        Games.drive(game, "+====", 0, -1);
        Games.drive(game, "=+====", 0, -1);
        Games.drive(game, "==+====", 0, -1);
        Check.due("600", 600.0, game, g -> g.meanTime());
        game.penalty(1, 1);
        Check.due("1801 / 3", 1801.0 / 3.0, game, g -> g.meanTime());
        game.strike(0);
        Check.due("1301 / 2", 650.5, game, g -> g.meanTime());
        game.strike(1);
        Check.due("700", 700.0, game, g -> g.meanTime());
        game.giveBack(1);
        Check.due("given back", 650.5, game, g -> g.meanTime());
    }

    private static void isSound() {
        Check.due("no laps", true, Games.five(), g -> g.isSound());
        Check.due("a chain", true, Games.chain(), g -> g.isSound());
        Check.due("all struck out", true, allStruck(), g -> g.isSound());
        Check.due("penalties", true, Games.chain(), g -> {
            g.penalty(3, 9999);
            g.strike(2);
            g.giveBack(2);
            return g.isSound();
        });
        Check.due("what is typed stays", 3, Games.type(Games.chain(), "+=-"), g -> {
            g.isSound();
            return g.wipe();
        });
    }
}
