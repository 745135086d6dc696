import java.util.ArrayList;
import java.util.List;

/**
 * Tellings of all that a game answers, to see whether a refused call changed it. Each stays far
 * below the 512 calls of an object, and may change the game: none is followed by another.
 */
final class Tell {
    private Tell() {
    }

    static List<Check.Call> all() {
        List<Check.Call> tellings = new ArrayList<>();
        tellings.add(Tell::tracks);
        for (int i = 0; i < 4; i++) {
            int track = i;
            tellings.add(g -> limits(g, track));
        }
        tellings.add(Tell::cars);
        tellings.add(Tell::typed);
        tellings.add(Tell::laps);
        tellings.add(Tell::store);
        for (int i = 0; i < 30; i += 5) {
            int first = i;
            tellings.add(g -> inputs(g, first));
        }
        tellings.add(Tell::figures);
        tellings.add(Tell::seasons);
        return tellings;
    }

    /** Tells what the call answers, and whether it throws nothing. */
    private static boolean add(StringBuilder told, Ghostracer game, Check.Call call) {
        String answer = Check.answerOf(game, call);
        told.append(answer).append(' ');
        return !answer.startsWith("throws.");
    }

    private static String tracks(Ghostracer game) {
        StringBuilder told = new StringBuilder();
        for (int i = 0; i < 4; i++) {
            int track = i;
            add(told, game, g -> g.lengthOf(track));
            add(told, game, g -> g.least(track));
            for (int j = 0; j < 13; j++) {
                add(told, game, g -> g.stretch(track, 1, 1));
            }
        }
        for (int i = 0; i < 5; i++) {
            add(told, game, g -> g.track());
        }
        return told.toString();
    }

    private static String limits(Ghostracer game, int track) {
        StringBuilder told = new StringBuilder();
        boolean isPlace = true;
        for (int i = 0; isPlace && i <= 360; i++) {
            int place = i;
            isPlace = add(told, game, g -> g.limitAt(track, place));
        }
        return told.toString();
    }

    private static String cars(Ghostracer game) {
        StringBuilder told = new StringBuilder();
        for (int i = 0; i < 4; i++) {
            int car = i;
            for (int j = 0; j < 4; j++) {
                int track = j;
                add(told, game, g -> g.tryOut(track, car));
            }
        }
        add(told, game, g -> g.type('+', 1));
        add(told, game, g -> g.wipe());
        for (int i = 0; i < 4; i++) {
            int car = i;
            add(told, game, g -> g.type('+', 20));
            for (int j = 0; j < 4; j++) {
                int track = j;
                add(told, game, g -> g.tryOut(track, car));
            }
            add(told, game, g -> g.wipe());
        }
        for (int i = 0; i < 5; i++) {
            add(told, game, g -> g.car(1, 1, 1));
        }
        return told.toString();
    }

    private static String laps(Ghostracer game) {
        StringBuilder told = new StringBuilder();
        add(told, game, g -> g.laps());
        for (int i = 0; i < 31; i++) {
            int lap = i;
            add(told, game, g -> g.time(lap, true));
            for (char what : "dtcgr".toCharArray()) {
                add(told, game, g -> g.of(lap, what));
            }
        }
        return told.toString();
    }

    private static String store(Ghostracer game) {
        StringBuilder told = new StringBuilder();
        for (int i = 0; i < 31; i++) {
            int lap = i;
            add(told, game, g -> g.base(lap));
            add(told, game, g -> g.depth(lap));
            add(told, game, g -> g.parts(lap));
            add(told, game, g -> g.resting(lap));
            add(told, game, g -> g.stands(lap));
            add(told, game, g -> g.penalty(lap, 0));
        }
        return told.toString();
    }

    /** The inputs that are typed, and the open round, as far as laps can be made to show them. */
    private static String typed(Ghostracer game) {
        StringBuilder told = new StringBuilder();
        boolean isRoom = true;
        for (int i = 0; isRoom && i <= 60; i++) {
            isRoom = add(told, game, g -> g.type('+', 1));
        }
        int lap = game.laps();
        add(told, game, g -> g.tryOut(0, 0));
        add(told, game, g -> g.drive(0, 0, 0, -1));
        tellInputs(told, game, lap);
        add(told, game, g -> g.of(lap, 'r'));
        add(told, game, g -> g.type('+', 20));
        add(told, game, g -> g.drive(0, 1, 1, -1));
        add(told, game, g -> g.of(lap + 1, 'r'));
        return told.toString();
    }

    private static void tellInputs(StringBuilder told, Ghostracer game, int lap) {
        boolean isInput = true;
        for (int i = 0; isInput && i <= 60; i++) {
            int tick = i;
            isInput = add(told, game, g -> g.inputAt(lap, tick));
        }
    }

    private static String inputs(Ghostracer game, int first) {
        StringBuilder told = new StringBuilder();
        for (int i = first; i < first + 5; i++) {
            int lap = i;
            add(told, game, g -> g.ticks(lap));
            add(told, game, g -> g.time(lap, false));
            add(told, game, g -> g.replay(lap, 3, false));
            add(told, game, g -> g.beats(lap));
            tellInputs(told, game, lap);
        }
        return told.toString();
    }

    private static String figures(Ghostracer game) {
        StringBuilder told = new StringBuilder();
        add(told, game, g -> g.stored());
        add(told, game, g -> g.checksum());
        add(told, game, g -> g.shareStored());
        add(told, game, g -> g.meanTime());
        add(told, game, g -> g.isSound());
        return told.toString();
    }

    private static String seasons(Ghostracer game) {
        StringBuilder told = new StringBuilder();
        for (int i = 0; i < 6; i++) {
            int driver = i;
            add(told, game, g -> g.points(driver));
            add(told, game, g -> g.wins(driver));
            add(told, game, g -> g.standing(driver));
            for (int j = 0; j < 10; j++) {
                int round = j;
                add(told, game, g -> g.lapIn(round, driver));
                add(told, game, g -> g.placeIn(round, driver));
            }
        }
        add(told, game, g -> g.drop(0));
        add(told, game, g -> g.points(0));
        add(told, game, g -> g.shut());
        for (int i = 0; i < 11; i++) {
            add(told, game, g -> g.round(0));
        }
        return told.toString();
    }
}
