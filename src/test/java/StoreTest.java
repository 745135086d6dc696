/** Promises 19 to 23, and what the terms say of the store. */
public final class StoreTest {
    public static void main(String[] args) {
        base();
        depth();
        parts();
        stored();
        resting();
        Check.end("StoreTest");
    }

    /** Tells base, depth and parts of a lap, -1 for a lap without base. */
    private static void storedIs(String what, Ghostracer game, int lap, int base, int depth,
            int parts) {
        Object dueBase = base < 0 ? Check.NO_ELEMENT : base;
        Check.due(what + ", base of " + lap, dueBase, game, g -> g.base(lap));
        Check.due(what + ", depth of " + lap, depth, game, g -> g.depth(lap));
        Check.due(what + ", parts of " + lap, parts, game, g -> g.parts(lap));
    }

    private static void base() {
        Ghostracer game = Games.chain();
        Check.due("the ghost", 4, game, g -> g.base(5));
        Check.due("with laps between", 2, game, g -> {
            Games.drive(g, "+====", 0, 2);
            return g.base(6);
        });
        Check.refused("stored whole", Check.NO_ELEMENT, Games::chain, g -> g.base(0));
        Check.refused("lap below", Check.INDEX, Games::chain, g -> g.base(-1));
        Check.refused("lap beyond", Check.INDEX, Games::chain, g -> g.base(6));
    }

    private static void depth() {
        Ghostracer game = Games.chain();
        for (int i = 0; i < 6; i++) {
            int lap = i;
            Check.due("depth of " + i, i, game, g -> g.depth(lap));
        }
        Games.drive(game, "+====", 0, 5);
        storedIs("a ghost of the depth 5", game, 6, -1, 0, 5);
        Games.drive(game, "+====", 0, 6);
        storedIs("a ghost that is whole again", game, 7, 6, 1, 0);
        Games.drive(game, "+====", 0, 4);
        storedIs("a ghost of the depth 4", game, 8, 4, 5, 4);
        Check.refused("lap below", Check.INDEX, Games::chain, g -> g.depth(-1));
        Check.refused("lap beyond", Check.INDEX, Games::chain, g -> g.depth(6));
    }

    private static void parts() {
        Ghostracer game = Games.five();
        Games.drive(game, "=+====", 0, -1);
        storedIs("whole, in as many parts as inputs", game, 0, -1, 0, 6);
        Games.drive(game, "+====", 0, 0);
        storedIs("shorter than the base", game, 1, 0, 1, 2);
        Games.drive(game, "==+====", 0, 0);
        storedIs("longer than the base", game, 2, 0, 1, 3);
        Games.drive(game, "=+====", 0, 0);
        storedIs("alike", game, 3, 0, 1, 0);
        Games.drive(game, "-+++++", 0, 0);
        storedIs("unlike at all but one", game, 4, 0, 1, 5);
        Games.drive(game, "-+++++", 0, 3);
        storedIs("against its base alone", game, 5, 3, 2, 5);
        Games.drive(game, "+====----", 0, 1);
        storedIs("what is behind the end is no part", game, 6, 1, 2, 0);
        Check.refused("lap below", Check.INDEX, Games::chain, g -> g.parts(-1));
        Check.refused("lap beyond", Check.INDEX, Games::chain, g -> g.parts(6));
    }

    private static void stored() {
        Ghostracer game = Games.chain();
        Check.due("5 + 1 + 1 + 1 + 1 + 5", 14, game, g -> g.stored());
        game.strike(3);
        Check.due("5 + 1 + 1 + 1 + 2 + 5, with the one struck out", 15, game, g -> g.stored());
        game.strike(0);
        Check.due("5 + 5 + 1 + 1 + 2 + 5", 19, game, g -> g.stored());
        Check.due("no laps", 0, Games.five(), g -> g.stored());
        Check.due("thirty laps, whole", 150, Games.fullOfLaps(), g -> g.stored());
    }

    private static void restingIs(String what, Ghostracer game, int... due) {
        for (int i = 0; i < due.length; i++) {
            int lap = i;
            Check.due(what + ", resting on " + i, due[i], game, g -> g.resting(lap));
        }
    }

    private static void resting() {
        Ghostracer game = Games.chain();
        restingIs("a chain", game, 5, 4, 3, 2, 1, 0);
        Games.drive(game, "+====", 0, 2);
        Games.drive(game, "+====", 0, 6);
        Games.drive(game, "+====", 0, 5);
        restingIs("a tree, and one that is whole", game, 7, 6, 5, 2, 1, 0, 1, 0, 0);
        game.strike(4);
        restingIs("one struck out rests still", game, 7, 6, 5, 2, 0, 0, 1, 0, 0);
        game.strike(2);
        restingIs("nothing rests on one struck out", game, 7, 6, 0, 2, 0, 0, 1, 0, 0);
        game.giveBack(2);
        restingIs("nor when it is given back", game, 7, 6, 0, 2, 0, 0, 1, 0, 0);
        Check.refused("lap below", Check.INDEX, Games::chain, g -> g.resting(-1));
        Check.refused("lap beyond", Check.INDEX, Games::chain, g -> g.resting(6));
    }
}
