import java.util.Arrays;

/** A game each call of which is counted and asked for its answer, up to the 512th. */
class LongGame {
    private static final int CALLS = 512;

    private final String name;
    private final Ghostracer game = new Ghostracer();
    private int calls;
    /** Of each lap of a full game, whether it stands. */
    final boolean[] stands = new boolean[30];

    LongGame(String name) {
        this.name = name;
        Arrays.fill(stands, true);
    }

    final void due(String call, Object want, Check.Call asked) {
        calls++;
        Check.due(name + ", call " + calls + ", " + call, want, game, asked);
    }

    final int left() {
        return CALLS - calls;
    }

    /** A track of five places and a car of the speed 1. */
    final void begin() {
        due("track", 0, g -> g.track());
        due("stretch", 5, g -> g.stretch(0, 5, 9));
        due("car", 0, g -> g.car(1, 1, 0));
    }

    /** Drives a lap that waits so many ticks, and needs five more for the five places. */
    final void drive(int lap, int waited, int driver, int ghost) {
        for (int typed = 0; typed < waited; typed += 20) {
            int times = Math.min(20, waited - typed);
            due("type =", typed + times, g -> g.type('=', times));
        }
        due("type +", waited + 1, g -> g.type('+', 1));
        due("type ====", waited + 5, g -> g.type('=', 4));
        due("drive", lap, g -> g.drive(driver, 0, 0, ghost));
    }

    final int countStanding() {
        int count = 0;
        for (boolean one : stands) {
            count += one ? 1 : 0;
        }
        return count;
    }

    /** Asks how many laps there are until one call is left, and that one last. */
    final void end(int laps, String last, Object want, Check.Call asked) {
        while (left() > 1) {
            due("laps", laps, g -> g.laps());
        }
        due(last, want, asked);
        Check.same("calls left of " + name, 0, left());
    }
}
