import java.util.Arrays;

/**
 * Nine rounds of three laps each, of 500, 600 and 700 hundredths, by the drivers 0, 2 and 4 in turn;
 * three more laps while none is open; and a tenth round without laps. Then the first lap of now one,
 * now another round has a penalty of 150, is struck out, is given back with it, and is forgiven,
 * while now fewer, now more rounds are dropped.
 */
final class LongSeasons extends LongGame {
    private static final int[] POINTS = {10, 8, 6};
    private static final int FORGIVEN = 0;
    private static final int PUNISHED = 1;
    private static final int STRUCK = 2;
    private static final int GIVEN_BACK = 3;
    /** The laps of a round in their order, by what became of the first. */
    private static final int[][] ORDERS = {{0, 1, 2}, {1, 0, 2}, {1, 2}, {1, 0, 2}};

    private final int[] states = new int[9];
    private int dropped;

    LongSeasons() {
        super("seasons");
    }

    void play() {
        begin();
        for (int round = 0; round < 9; round++) {
            openAndDrive(round);
        }
        driveThree(9);
        due("round", 9, g -> g.round(0));
        due("an eleventh round", Check.STATE, g -> g.round(0));
        due("shut", 9, g -> g.shut());
        for (int step = 0; left() > 14; step++) {
            // 4 is prime to 9, and 5 to 6, so that all rounds and numbers have their turn.
            change(step * 4 % 9);
            drop(step % 4);
            seasonIs(step * 5 % 6);
            roundIs(step * 4 % 9, step % 4);
            roundIs((step + 1) * 7 % 9, 0);
        }
        end(30, "isSound", true, g -> g.isSound());
    }

    /** Each third round is shut by a call, the others by the next one. */
    private void openAndDrive(int round) {
        due("round", round, g -> g.round(0));
        driveThree(round);
        if (round % 3 == 2) {
            due("shut", round, g -> g.shut());
            due("shut again", Check.STATE, g -> g.shut());
        }
    }

    private void driveThree(int round) {
        for (int i = 0; i < 3; i++) {
            int lap = 3 * round + i;
            drive(lap, i, driver(round, i), -1);
            due("round of " + lap, round < 9 ? round : -1, g -> g.of(lap, 'r'));
        }
    }

    private static int driver(int round, int lap) {
        return lap == 3 ? 5 : (round + lap) % 3 * 2;
    }

    private void change(int round) {
        int first = 3 * round;
        states[round] = (states[round] + 1) % 4;
        stands[first] = states[round] != STRUCK;
        switch (states[round]) {
            case PUNISHED:
                due("punish " + first, 0, g -> g.penalty(first, 150));
                break;
            case STRUCK:
                due("strike " + first, 0, g -> g.strike(first));
                break;
            case GIVEN_BACK:
                due("give back " + first, countStanding(), g -> g.giveBack(first));
                break;
            default:
                due("forgive " + first, 150, g -> g.penalty(first, 0));
        }
    }

    private void drop(int rounds) {
        due("drop " + rounds, dropped, g -> g.drop(rounds));
        dropped = rounds;
    }

    /** The place of a driver in a round, from 0, or -1. */
    private int place(int round, int driver) {
        int[] order = ORDERS[states[round]];
        for (int i = 0; i < order.length; i++) {
            if (driver(round, order[i]) == driver) {
                return i;
            }
        }
        return -1;
    }

    private int points(int driver) {
        int[] scores = new int[10];
        for (int round = 0; round < 9; round++) {
            int place = place(round, driver);
            scores[round] = place < 0 ? 0 : POINTS[place];
        }
        Arrays.sort(scores);
        return Arrays.stream(scores).skip(dropped).sum();
    }

    private int wins(int driver) {
        int wins = 0;
        for (int round = 0; round < 9; round++) {
            wins += place(round, driver) == 0 ? 1 : 0;
        }
        return wins;
    }

    private int standing(int place) {
        int[] ranks = new int[6];
        for (int i = 0; i < 6; i++) {
            ranks[i] = points(i) * 1000 + wins(i) * 10 + 5 - i;
        }
        Arrays.sort(ranks);
        return 5 - ranks[5 - place] % 10;
    }

    private int least() {
        for (int round = 0; round < 9; round++) {
            if (states[round] == FORGIVEN) {
                return 3 * round;
            }
        }
        return 27;
    }

    private void seasonIs(int number) {
        due("points of " + number, points(number), g -> g.points(number));
        due("wins of " + number, wins(number), g -> g.wins(number));
        due("standing at " + number, standing(number), g -> g.standing(number));
        due("least", least(), g -> g.least(0));
    }

    /** What the driver of a round's lap has in it; a fourth one has none. */
    private void roundIs(int round, int lap) {
        int driver = driver(round, lap);
        int place = place(round, driver);
        due("lap of " + driver + " in " + round, place < 0 ? Check.NO_ELEMENT : 3 * round + lap,
                g -> g.lapIn(round, driver));
        due("place of " + driver + " in " + round, place < 0 ? Check.NO_ELEMENT : place + 1,
                g -> g.placeIn(round, driver));
    }
}
