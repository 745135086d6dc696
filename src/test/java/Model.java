import java.util.ArrayList;
import java.util.Collections;
import java.util.Comparator;
import java.util.List;
import java.util.NoSuchElementException;

/**
 * The document once more, in another form than the class: texts, lists and sorting, and a store
 * that is told anew from the whole history at each question.
 */
final class Model {
    private static final int[] POINTS = {10, 8, 6, 5, 4, 3};

    private final List<List<Integer>> limits = new ArrayList<>();
    private final List<Integer> stretches = new ArrayList<>();
    private final List<int[]> cars = new ArrayList<>();
    private String typed = "";
    private final List<Lap> laps = new ArrayList<>();
    private final List<Integer> history = new ArrayList<>();
    private final List<Integer> rounds = new ArrayList<>();
    private int open = -1;
    private int dropped = 0;

    /** A lap as it was driven. */
    private static final class Lap {
        int number;
        int driver;
        int track;
        int car;
        int ghost;
        int round;
        int penalty;
        boolean stands = true;
        String inputs;
        List<int[]> states;
        int time;
    }

    /** What a word of inputs does: the states behind each tick, and whether the lap is over. */
    private static final class Drive {
        final List<int[]> states = new ArrayList<>();
        boolean isOver;
        int time;
    }

    private static void require(boolean holds, RuntimeException otherwise) {
        if (!holds) {
            throw otherwise;
        }
    }

    private static void index(int number, int size) {
        require(number >= 0 && number < size, new IndexOutOfBoundsException());
    }

    private static void range(int number, int from, int to) {
        require(number >= from && number <= to, new IllegalArgumentException());
    }

    int track() {
        require(limits.size() < 4, new IllegalStateException());
        limits.add(new ArrayList<>());
        stretches.add(0);
        return limits.size() - 1;
    }

    int stretch(int track, int length, int limit) {
        index(track, limits.size());
        range(length, 1, 30);
        range(limit, 1, 9);
        require(laps.stream().noneMatch(l -> l.track == track),
                new UnsupportedOperationException());
        require(stretches.get(track) < 12, new IllegalStateException());
        limits.get(track).addAll(Collections.nCopies(length, limit));
        stretches.set(track, stretches.get(track) + 1);
        return limits.get(track).size();
    }

    int car(int top, int pull, int grip) {
        range(top, 1, 9);
        range(pull, 1, 4);
        range(grip, 0, 3);
        require(cars.size() < 4, new IllegalStateException());
        cars.add(new int[] {top, pull, grip});
        return cars.size() - 1;
    }

    int lengthOf(int track) {
        index(track, limits.size());
        return limits.get(track).size();
    }

    int limitAt(int track, int place) {
        int length = lengthOf(track);
        require(place >= 0 && place < length, new NoSuchElementException());
        return limits.get(track).get(place);
    }

    int type(char input, int times) {
        require("+-=".indexOf(input) >= 0, new IllegalArgumentException());
        range(times, 1, 20);
        require(typed.length() + times <= 60, new IllegalStateException());
        typed += String.valueOf(input).repeat(times);
        return typed.length();
    }

    int wipe() {
        int before = typed.length();
        typed = "";
        return before;
    }

    private Drive driven(String word, int track, int car) {
        Drive drive = new Drive();
        int[] state = {0, 0};
        drive.states.add(state);
        int[] can = cars.get(car);
        List<Integer> road = limits.get(track);
        for (char input : word.toCharArray()) {
            int speed = state[1] + (input == '+' ? can[1] : input == '-' ? -can[1] : 0);
            speed = input == '+' ? Math.min(speed, can[0]) : Math.max(speed, 0);
            int place = state[0] + speed;
            drive.isOver = place >= road.size();
            if (!drive.isOver && speed > road.get(place) + can[2]) {
                speed /= 2;
            }
            state = new int[] {place, speed};
            drive.states.add(state);
            if (drive.isOver) {
                drive.time = 100 * (drive.states.size() - 1)
                        - 100 * (place - road.size()) / speed;
                break;
            }
        }
        return drive;
    }

    private Drive trial(int track, int car) {
        require(stretches.get(track) > 0, new UnsupportedOperationException());
        Drive drive = driven(typed, track, car);
        require(drive.isOver, new UnsupportedOperationException());
        return drive;
    }

    int drive(int driver, int track, int car, int ghost) {
        index(driver, 6);
        index(track, limits.size());
        index(car, cars.size());
        boolean isGhost = ghost >= 0 && ghost < laps.size() && laps.get(ghost).stands
                && laps.get(ghost).track == track;
        require(ghost == -1 || isGhost, new NoSuchElementException());
        Drive drive = trial(track, car);
        require(laps.size() < 30, new IllegalStateException());
        Lap lap = new Lap();
        lap.number = laps.size();
        lap.driver = driver;
        lap.track = track;
        lap.car = car;
        lap.ghost = ghost;
        lap.round = open >= 0 && rounds.get(open) == track ? open : -1;
        lap.states = drive.states;
        lap.inputs = typed.substring(0, drive.states.size() - 1);
        lap.time = drive.time;
        laps.add(lap);
        history.add(lap.number);
        typed = "";
        return lap.number;
    }

    int tryOut(int track, int car) {
        index(track, limits.size());
        index(car, cars.size());
        return trial(track, car).time;
    }

    int laps() {
        return laps.size();
    }

    private Lap lap(int number) {
        index(number, laps.size());
        return laps.get(number);
    }

    private static int counted(Lap lap) {
        return lap.time + lap.penalty;
    }

    int time(int lap, boolean isCounted) {
        return isCounted ? counted(lap(lap)) : lap(lap).time;
    }

    int ticks(int lap) {
        return lap(lap).inputs.length();
    }

    char inputAt(int lap, int tick) {
        int ticks = ticks(lap);
        require(tick >= 0 && tick < ticks, new NoSuchElementException());
        return lap(lap).inputs.charAt(tick);
    }

    int replay(int lap, int tick, boolean isSpeed) {
        int ticks = ticks(lap);
        require(tick >= 0 && tick <= ticks, new NoSuchElementException());
        return lap(lap).states.get(tick)[isSpeed ? 1 : 0];
    }

    int of(int lap, char what) {
        Lap asked = lap(lap);
        int found = "dtcgr".indexOf(what);
        require(found >= 0, new IllegalArgumentException());
        return new int[] {asked.driver, asked.track, asked.car, asked.ghost, asked.round}[found];
    }

    boolean beats(int lap) {
        Lap asked = lap(lap);
        require(asked.ghost >= 0, new NoSuchElementException());
        return counted(asked) < counted(laps.get(asked.ghost));
    }

    private static final Comparator<Lap> BY_COUNT = (a, b) -> counted(a) != counted(b)
            ? Integer.compare(counted(a), counted(b)) : Integer.compare(a.number, b.number);

    int least(int track) {
        index(track, limits.size());
        return laps.stream().filter(l -> l.stands && l.track == track).min(BY_COUNT)
                .orElseThrow(NoSuchElementException::new).number;
    }

    /** The bases of all laps, told anew: a lap's number is its drive, -1 - n a strike of n. */
    private int[] bases() {
        int[] bases = new int[30];
        for (int event : history) {
            if (event >= 0) {
                int ghost = laps.get(event).ghost;
                bases[event] = ghost >= 0 && chain(bases, ghost) < 5 ? ghost : -1;
            } else {
                int struck = -1 - event;
                for (int i = struck + 1; i < bases.length; i++) {
                    bases[i] = bases[i] == struck ? bases[struck] : bases[i];
                }
            }
        }
        return bases;
    }

    private static int chain(int[] bases, int lap) {
        return bases[lap] < 0 ? 0 : 1 + chain(bases, bases[lap]);
    }

    int base(int lap) {
        index(lap, laps.size());
        require(bases()[lap] >= 0, new NoSuchElementException());
        return bases()[lap];
    }

    int depth(int lap) {
        index(lap, laps.size());
        return chain(bases(), lap);
    }

    int parts(int lap) {
        String inputs = lap(lap).inputs;
        int base = bases()[lap];
        String other = base < 0 ? "" : laps.get(base).inputs;
        int parts = 0;
        for (int i = 0; i < inputs.length(); i++) {
            parts += other.startsWith(inputs.substring(i, i + 1), i) ? 0 : 1;
        }
        return parts;
    }

    int stored() {
        return laps.stream().mapToInt(l -> parts(l.number)).sum();
    }

    private static boolean rests(int[] bases, int lap, int below) {
        return bases[lap] >= 0 && (bases[lap] == below || rests(bases, bases[lap], below));
    }

    int resting(int lap) {
        index(lap, laps.size());
        int[] bases = bases();
        return (int) laps.stream().filter(l -> rests(bases, l.number, lap)).count();
    }

    int strike(int lap) {
        require(lap(lap).stands, new UnsupportedOperationException());
        int[] bases = bases();
        int against = (int) laps.stream().filter(l -> bases[l.number] == lap).count();
        lap(lap).stands = false;
        history.add(-1 - lap);
        return against;
    }

    int giveBack(int lap) {
        require(!lap(lap).stands, new UnsupportedOperationException());
        lap(lap).stands = true;
        return (int) laps.stream().filter(l -> l.stands).count();
    }

    boolean stands(int lap) {
        return lap(lap).stands;
    }

    int penalty(int lap, int hundredths) {
        Lap punished = lap(lap);
        range(hundredths, 0, 9999);
        int before = punished.penalty;
        punished.penalty = hundredths;
        return before;
    }

    int round(int track) {
        index(track, limits.size());
        require(rounds.size() < 10, new IllegalStateException());
        rounds.add(track);
        open = rounds.size() - 1;
        return open;
    }

    int shut() {
        require(open >= 0, new IllegalStateException());
        int before = open;
        open = -1;
        return before;
    }

    /** The drivers' laps of a round in the order of their places. */
    private List<Lap> order(int round) {
        List<Lap> best = new ArrayList<>();
        for (int driver = 0; driver < 6; driver++) {
            int asked = driver;
            laps.stream().filter(l -> l.round == round && l.stands && l.driver == asked)
                    .min(BY_COUNT).ifPresent(best::add);
        }
        best.sort(BY_COUNT);
        return best;
    }

    private int placeOf(int round, int driver) {
        List<Lap> order = order(round);
        for (int i = 0; i < order.size(); i++) {
            if (order.get(i).driver == driver) {
                return i;
            }
        }
        return -1;
    }

    int lapIn(int round, int driver) {
        return order(round).get(placeIn(round, driver) - 1).number;
    }

    int placeIn(int round, int driver) {
        index(round, rounds.size());
        index(driver, 6);
        require(placeOf(round, driver) >= 0, new NoSuchElementException());
        return placeOf(round, driver) + 1;
    }

    int drop(int count) {
        range(count, 0, 3);
        int before = dropped;
        dropped = count;
        return before;
    }

    int points(int driver) {
        index(driver, 6);
        List<Integer> scores = new ArrayList<>();
        for (int round = 0; round < rounds.size(); round++) {
            int place = placeOf(round, driver);
            scores.add(place < 0 ? 0 : POINTS[place]);
        }
        Collections.sort(scores);
        return scores.stream().skip(dropped).mapToInt(s -> s).sum();
    }

    int wins(int driver) {
        index(driver, 6);
        int wins = 0;
        for (int round = 0; round < rounds.size(); round++) {
            wins += placeOf(round, driver) == 0 ? 1 : 0;
        }
        return wins;
    }

    int standing(int place) {
        index(place, 6);
        List<Integer> drivers = new ArrayList<>(List.of(0, 1, 2, 3, 4, 5));
        drivers.sort(Comparator.comparing((Integer d) -> -points(d)).thenComparing(d -> -wins(d)));
        return drivers.get(place);
    }

    long checksum() {
        long sum = 7;
        for (Lap lap : laps) {
            sum = sum * 31 + counted(lap) + parts(lap.number) + (lap.stands ? 1 : 0);
        }
        return sum;
    }

    float shareStored() {
        require(!laps.isEmpty(), new NoSuchElementException());
        return (float) stored() / (float) laps.stream().mapToInt(l -> l.inputs.length()).sum();
    }

    double meanTime() {
        return laps.stream().filter(l -> l.stands).mapToInt(Model::counted).average()
                .orElseThrow(NoSuchElementException::new);
    }

    boolean isSound() {
        return true;
    }
}
