/** Promises 24 to 27, and what the terms say of laps that are struck out. */
public final class StewardTest {
    public static void main(String[] args) {
        strikeInTheMiddle();
        strikeTheBaseOfOneStruckOut();
        strikeTheFirst();
        strikeKeepsTheRest();
        strikeIsRefused();
        giveBack();
        stands();
        penalty();
        Check.end("StewardTest");
    }

    /** Each row: base, depth, parts; the base -1 for a lap that is stored whole. */
    private static void storeIs(String what, Ghostracer game, int[][] rows) {
        for (int i = 0; i < rows.length; i++) {
            int lap = i;
            Object base = rows[i][0] < 0 ? Check.NO_ELEMENT : rows[i][0];
            Check.due(what + ", base of " + i, base, game, g -> g.base(lap));
            Check.due(what + ", depth of " + i, rows[i][1], game, g -> g.depth(lap));
            Check.due(what + ", parts of " + i, rows[i][2], game, g -> g.parts(lap));
        }
    }

    private static void strikeInTheMiddle() {
        Ghostracer game = Games.chain();
        Games.drive(game, "+====", 0, 5);
        Check.due("one against it", 1, game, g -> g.strike(2));
        storeIs("2 is struck out", game, new int[][] {{-1, 0, 5}, {0, 1, 1}, {1, 2, 1}, {1, 2, 2},
                {3, 3, 1}, {4, 4, 5}, {-1, 0, 5}});
        Check.due("the ghost stays", 2, game, g -> g.of(3, 'g'));
        Check.due("the inputs stay", '+', game, g -> g.inputAt(3, 3));
        Check.due("the last input stays", '=', game, g -> g.inputAt(3, 4));
        Check.due("none against the last", 0, game, g -> g.strike(5));
        Check.due("sound", true, game, g -> g.isSound());
        Check.due("the depth 5, but for the strike", 4, game, g -> {
            Games.drive(g, "+====", 0, 4);
            return g.depth(7);
        });
        Check.due("the depth 5 again", 5, game, g -> {
            Games.drive(g, "+====", 0, 7);
            return g.depth(8);
        });
    }

    private static void strikeTheBaseOfOneStruckOut() {
        Ghostracer game = Games.chain();
        game.strike(2);
        Check.due("two against it, one struck out", 2, game, g -> g.strike(1));
        storeIs("1 and 2 are struck out", game, new int[][] {{-1, 0, 5}, {0, 1, 1}, {0, 1, 2},
                {0, 1, 3}, {3, 2, 1}, {4, 3, 5}});
        Check.due("sound", true, game, g -> g.isSound());
        Check.due("two struck out and one that stands", 3, game, g -> g.strike(0));
        storeIs("0, 1 and 2 are struck out", game, new int[][] {{-1, 0, 5}, {-1, 0, 5}, {-1, 0, 5},
                {-1, 0, 5}, {3, 1, 1}, {4, 2, 5}});
        Check.due("struck out, 1 does not stand", false, game, g -> g.stands(1));
    }

    private static void strikeTheFirst() {
        Ghostracer game = Games.chain();
        Games.drive(game, "==+====", 0, 0);
        Check.due("two against it", 2, game, g -> g.strike(0));
        storeIs("whole without its own base", game, new int[][] {{-1, 0, 5}, {-1, 0, 5},
                {1, 1, 1}, {2, 2, 1}, {3, 3, 1}, {4, 4, 5}, {-1, 0, 7}});
        Check.due("one that is whole and alone", 0, game, g -> g.strike(6));
    }

    private static void strikeKeepsTheRest() {
        Ghostracer game = Games.chain();
        game.penalty(2, 77);
        game.strike(2);
        Check.due("time", 500, game, g -> g.time(2, false));
        Check.due("penalty", 577, game, g -> g.time(2, true));
        Check.due("ghost", 1, game, g -> g.of(2, 'g'));
        Check.due("base", 1, game, g -> g.base(2));
        Check.due("input", '+', game, g -> g.inputAt(2, 2));
        Check.due("replay", 5, game, g -> g.replay(2, 5, false));
        Check.due("laps", 6, game, g -> g.laps());
        Check.due("the others stand", true, game, g -> g.stands(3));
        Games.drive(game, "+====", 0, 3);
        Check.due("a lap against one that was moved", 3, game, g -> g.depth(6));
    }

    private static Ghostracer struckChain() {
        Ghostracer game = Games.chain();
        game.round(0);
        game.strike(2);
        return game;
    }

    private static void strikeIsRefused() {
        Check.Setup struck = StewardTest::struckChain;
        Check.refused("lap below", Check.INDEX, struck, g -> g.strike(-1));
        Check.refused("lap beyond", Check.INDEX, struck, g -> g.strike(6));
        Check.refused("struck out", Check.UNSUPPORTED, struck, g -> g.strike(2));
    }

    private static void giveBack() {
        Ghostracer game = struckChain();
        game.strike(1);
        Check.due("five stand then", 5, game, g -> g.giveBack(1));
        storeIs("1 is given back", game, new int[][] {{-1, 0, 5}, {0, 1, 1}, {0, 1, 2},
                {0, 1, 3}, {3, 2, 1}, {4, 3, 5}});
        Check.due("it stands", true, game, g -> g.stands(1));
        Check.due("six stand then", 6, game, g -> g.giveBack(2));
        Games.drive(game, "+====", 0, 2);
        Check.due("it is a base of what races it now", 2, game, g -> g.base(6));
        Check.due("only of that", 1, game, g -> g.strike(2));
        Check.due("given back again", 7, game, g -> g.giveBack(2));
        Check.Setup struck = StewardTest::struckChain;
        Check.refused("lap below", Check.INDEX, struck, g -> g.giveBack(-1));
        Check.refused("lap beyond", Check.INDEX, struck, g -> g.giveBack(6));
        Check.refused("it stands", Check.UNSUPPORTED, struck, g -> g.giveBack(3));
    }

    private static void stands() {
        Ghostracer game = struckChain();
        Check.due("never struck out", true, game, g -> g.stands(5));
        Check.due("struck out", false, game, g -> g.stands(2));
        game.giveBack(2);
        Check.due("given back", true, game, g -> g.stands(2));
        Check.Setup struck = StewardTest::struckChain;
        Check.refused("lap below", Check.INDEX, struck, g -> g.stands(-1));
        Check.refused("lap beyond", Check.INDEX, struck, g -> g.stands(6));
    }

    private static void penalty() {
        Ghostracer game = struckChain();
        Check.due("0 at first", 0, game, g -> g.penalty(1, 9999));
        Check.due("the most before", 9999, game, g -> g.penalty(1, 12));
        Check.due("it is set, not added", 512, game, g -> g.time(1, true));
        Check.due("one before", 12, game, g -> g.penalty(1, 0));
        Check.due("none again", 500, game, g -> g.time(1, true));
        Check.due("of one that is struck out", 0, game, g -> g.penalty(2, 5));
        Check.due("kept when it is given back", 505, game, g -> {
            g.giveBack(2);
            return g.time(2, true);
        });
        Check.Setup struck = StewardTest::struckChain;
        Check.refused("lap below", Check.INDEX, struck, g -> g.penalty(-1, 5));
        Check.refused("lap beyond", Check.INDEX, struck, g -> g.penalty(6, 5));
        Check.refused("lap ahead of number", Check.INDEX, struck, g -> g.penalty(6, -1));
        Check.refused("-1", Check.ARGUMENT, struck, g -> g.penalty(1, -1));
        Check.refused("10000", Check.ARGUMENT, struck, g -> g.penalty(1, 10000));
    }
}
