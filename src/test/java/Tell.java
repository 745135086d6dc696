import java.util.ArrayList;
import java.util.List;

/**
 * Tellings of all that a game answers, to see whether a refused call changed it. Each stays far
 * below the 512 calls of an object, and may change the game: none is followed by another.
 */
final class Tell {
    private Tell() {
    }

    static List<Check.Call> all() {
        List<Check.Call> tellings = new ArrayList<>();
        tellings.add(Tell::tracks);
        tellings.add(Tell::cars);
        tellings.add(Tell::laps);
        tellings.add(Tell::inputs);
        tellings.add(Tell::seasons);
        return tellings;
    }

    private static void add(StringBuilder told, Ghostracer game, Check.Call call) {
        told.append(Check.answerOf(game, call)).append(' ');
    }

    private static String tracks(Ghostracer game) {
        StringBuilder told = new StringBuilder();
        for (int i = 0; i < 4; i++) {
            int track = i;
            add(told, game, g -> g.lengthOf(track));
            add(told, game, g -> g.least(track));
            for (int j = 0; j < 40; j++) {
                int place = j;
                add(told, game, g -> g.limitAt(track, place));
            }
            for (int j = 0; j < 13; j++) {
                add(told, game, g -> g.stretch(track, 1, 1));
            }
        }
        for (int i = 0; i < 5; i++) {
            add(told, game, g -> g.track());
        }
        return told.toString();
    }

    private static String cars(Ghostracer game) {
        StringBuilder told = new StringBuilder();
        for (int i = 0; i < 4; i++) {
            int car = i;
            for (int j = 0; j < 4; j++) {
                int track = j;
                add(told, game, g -> g.tryOut(track, car));
            }
        }
        add(told, game, g -> g.type('+', 1));
        add(told, game, g -> g.wipe());
        for (int i = 0; i < 4; i++) {
            int car = i;
            add(told, game, g -> g.type('+', 20));
            add(told, game, g -> g.tryOut(0, car));
            add(told, game, g -> g.wipe());
        }
        for (int i = 0; i < 5; i++) {
            add(told, game, g -> g.car(1, 1, 1));
        }
        return told.toString();
    }

    private static String laps(Ghostracer game) {
        StringBuilder told = new StringBuilder();
        add(told, game, g -> g.laps());
        for (int i = 0; i < 31; i++) {
            int lap = i;
            add(told, game, g -> g.time(lap, true));
            for (char what : "dtcgr".toCharArray()) {
                add(told, game, g -> g.of(lap, what));
            }
            add(told, game, g -> g.base(lap));
            add(told, game, g -> g.depth(lap));
            add(told, game, g -> g.parts(lap));
            add(told, game, g -> g.resting(lap));
            add(told, game, g -> g.stands(lap));
            add(told, game, g -> g.penalty(lap, 0));
        }
        return told.toString();
    }

    private static String inputs(Ghostracer game) {
        StringBuilder told = new StringBuilder();
        for (int i = 0; i < 30; i++) {
            int lap = i;
            add(told, game, g -> g.ticks(lap));
            add(told, game, g -> g.time(lap, false));
            add(told, game, g -> g.replay(lap, 3, false));
            for (int j = 0; j < 6; j++) {
                int tick = j;
                add(told, game, g -> g.inputAt(lap, tick));
            }
        }
        add(told, game, g -> g.stored());
        add(told, game, g -> g.checksum());
        add(told, game, g -> g.shareStored());
        add(told, game, g -> g.meanTime());
        add(told, game, g -> g.isSound());
        return told.toString();
    }

    private static String seasons(Ghostracer game) {
        StringBuilder told = new StringBuilder();
        for (int i = 0; i < 6; i++) {
            int driver = i;
            add(told, game, g -> g.points(driver));
            add(told, game, g -> g.wins(driver));
            add(told, game, g -> g.standing(driver));
            for (int j = 0; j < 10; j++) {
                int round = j;
                add(told, game, g -> g.lapIn(round, driver));
                add(told, game, g -> g.placeIn(round, driver));
            }
        }
        add(told, game, g -> g.drop(0));
        add(told, game, g -> g.points(0));
        add(told, game, g -> g.shut());
        for (int i = 0; i < 11; i++) {
            add(told, game, g -> g.round(0));
        }
        return told.toString();
    }
}
