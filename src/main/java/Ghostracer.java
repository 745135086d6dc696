import java.util.NoSuchElementException;

/**
 * A racing game: tracks of stretches, cars, laps driven by inputs tick by tick, laps stored by what
 * is unlike a ghost's, ghosts that are raced and perhaps beaten, a steward who strikes laps out of
 * the middle of a chain and gives them back, and seasons whose points follow the laps that stand.
 */
public final class Ghostracer {
    private static final int TRACKS = 4;
    private static final int STRETCHES = 12;
    private static final int LONGEST = 30;
    private static final int FASTEST = 9;
    private static final int CARS = 4;
    private static final int STRONGEST = 4;
    private static final int GRIPPIEST = 3;
    private static final int DRIVERS = 6;
    private static final int INPUTS = 60;
    private static final int INPUTS_AT_ONCE = 20;
    private static final int LAPS = 30;
    private static final int DEEPEST = 5;
    private static final int WORST_PENALTY = 9999;
    private static final int ROUNDS = 10;
    private static final int MOST_DROPPED = 3;
    private static final int NONE = -1;
    private static final int[] POINTS = {10, 8, 6, 5, 4, 3};
    // More than a round can bring, so that a score that was taken is never the least.
    private static final int TAKEN = 100;

    private final Track[] tracks = new Track[TRACKS];
    private int trackCount;
    private final Car[] cars = new Car[CARS];
    private int carCount;
    private final char[] typed = new char[INPUTS];
    private int typedCount;
    private final Ride ride = new Ride();
    private final Book book = new Book();
    private final Season season = new Season();

    /** Creates a game without tracks, cars and laps. */
    public Ghostracer() {
        for (int i = 0; i < TRACKS; i++) {
            tracks[i] = new Track();
        }
        for (int i = 0; i < CARS; i++) {
            cars[i] = new Car();
        }
    }

    // Tracks and cars

    /** Adds a track without stretches and returns its number. */
    public int track() throws IllegalStateException {
        if (trackCount >= TRACKS) {
            throw new IllegalStateException("there are 4 tracks");
        }
        trackCount++;
        return trackCount - 1;
    }

    /** Adds a stretch to a track, behind the others, and returns the length of the track. */
    public int stretch(int track, int length, int limit)
            throws IndexOutOfBoundsException, IllegalArgumentException,
            UnsupportedOperationException, IllegalStateException {
        Track longer = trackNumbered(track);
        if (!isWithin(length, 1, LONGEST) || !isWithin(limit, 1, FASTEST)) {
            throw new IllegalArgumentException("the length or the limit is out of range");
        }
        if (longer.isDriven) {
            throw new UnsupportedOperationException("a lap was driven on the track");
        }
        if (longer.stretches >= STRETCHES) {
            throw new IllegalStateException("the track has 12 stretches");
        }
        longer.append(length, limit);
        return longer.length;
    }

    /** Adds a car and returns its number. */
    public int car(int top, int pull, int grip)
            throws IllegalArgumentException, IllegalStateException {
        if (!isWithin(top, 1, FASTEST) || !isWithin(pull, 1, STRONGEST)
                || !isWithin(grip, 0, GRIPPIEST)) {
            throw new IllegalArgumentException("a number of the car is out of range");
        }
        if (carCount >= CARS) {
            throw new IllegalStateException("there are 4 cars");
        }
        Car added = cars[carCount];
        added.top = top;
        added.pull = pull;
        added.grip = grip;
        carCount++;
        return carCount - 1;
    }

    /** Returns the length of a track. */
    public int lengthOf(int track) throws IndexOutOfBoundsException {
        return trackNumbered(track).length;
    }

    /** Returns the limit at a place of a track. */
    public int limitAt(int track, int place)
            throws IndexOutOfBoundsException, NoSuchElementException {
        Track asked = trackNumbered(track);
        if (place < 0 || place >= asked.length) {
            throw new NoSuchElementException("no such place");
        }
        return asked.limitOf(place);
    }

    // Driving

    /** Types an input so often and returns how many are typed. */
    public int type(char input, int times) throws IllegalArgumentException, IllegalStateException {
        boolean isInput = input == '+' || input == '-' || input == '=';
        if (!isInput || !isWithin(times, 1, INPUTS_AT_ONCE)) {
            throw new IllegalArgumentException("no such input, or so often it is not typed");
        }
        int wanted = typedCount + times;
        if (wanted > INPUTS) {
            throw new IllegalStateException("more than 60 inputs");
        }
        for (int i = typedCount; i < wanted; i++) {
            typed[i] = input;
        }
        typedCount = wanted;
        return typedCount;
    }

    /** Empties what is typed and returns how many were. */
    public int wipe() {
        int before = typedCount;
        typedCount = 0;
        return before;
    }

    /** Drives a lap by the typed inputs, which are empty then, and returns its number. */
    public int drive(int driver, int track, int car, int ghost)
            throws IndexOutOfBoundsException, NoSuchElementException,
            UnsupportedOperationException, IllegalStateException {
        requireDriver(driver);
        Track road = trackNumbered(track);
        Car racer = carNumbered(car);
        if (ghost != NONE && !book.hasGhost(ghost, track)) {
            throw new NoSuchElementException("no such ghost on this track that stands");
        }
        rideTyped(road, racer);
        if (book.count >= LAPS) {
            throw new IllegalStateException("there are 30 laps");
        }
        Lap lap = book.laps[book.count];
        lap.driver = driver;
        lap.track = track;
        lap.car = car;
        lap.ghost = ghost;
        lap.round = season.roundOn(track);
        lap.keep(ride, typed);
        book.add(lap);
        road.isDriven = true;
        typedCount = 0;
        return book.count - 1;
    }

    /** Returns in how many hundredths the typed inputs would drive a lap; they stay typed. */
    public int tryOut(int track, int car)
            throws IndexOutOfBoundsException, UnsupportedOperationException {
        rideTyped(trackNumbered(track), carNumbered(car));
        return ride.time;
    }

    private void rideTyped(Track road, Car racer) {
        if (road.stretches == 0) {
            throw new UnsupportedOperationException("the track has no stretches");
        }
        ride.follow(typed, typedCount, road, racer);
        if (!ride.isOver) {
            throw new UnsupportedOperationException("the lap would not be over");
        }
    }

    // Laps

    /** Returns how many laps there are. */
    public int laps() {
        return book.count;
    }

    /** Returns the time of a lap, with or without its penalty. */
    public int time(int lap, boolean isCounted) throws IndexOutOfBoundsException {
        Lap asked = lapNumbered(lap);
        return isCounted ? asked.counted() : asked.time;
    }

    /** Returns how many inputs a lap has. */
    public int ticks(int lap) throws IndexOutOfBoundsException {
        return lapNumbered(lap).ticks;
    }

    /** Returns an input of a lap. */
    public char inputAt(int lap, int tick)
            throws IndexOutOfBoundsException, NoSuchElementException {
        Lap asked = lapNumbered(lap);
        if (tick < 0 || tick >= asked.ticks) {
            throw new NoSuchElementException("no such input");
        }
        return asked.inputs[tick];
    }

    /** Returns where a lap was behind so many ticks, or how fast. */
    public int replay(int lap, int tick, boolean isSpeed)
            throws IndexOutOfBoundsException, NoSuchElementException {
        Lap asked = lapNumbered(lap);
        if (tick < 0 || tick > asked.ticks) {
            throw new NoSuchElementException("no such tick");
        }
        rideAgain(asked, tick);
        return isSpeed ? ride.speed : ride.place;
    }

    /** Returns the driver, the track, the car, the ghost or the round of a lap. */
    public int of(int lap, char what) throws IndexOutOfBoundsException, IllegalArgumentException {
        Lap asked = lapNumbered(lap);
        switch (what) {
            case 'd':
                return asked.driver;
            case 't':
                return asked.track;
            case 'c':
                return asked.car;
            case 'g':
                return asked.ghost;
            case 'r':
                return asked.round;
            default:
                throw new IllegalArgumentException("no such thing of a lap");
        }
    }

    /** Tells whether a lap beats its ghost. */
    public boolean beats(int lap) throws IndexOutOfBoundsException, NoSuchElementException {
        Lap asked = lapNumbered(lap);
        if (!book.has(asked.ghost)) {
            throw new NoSuchElementException("the lap has no ghost");
        }
        return asked.counted() < book.laps[asked.ghost].counted();
    }

    /** Returns the lap of a track that stands and counts with least. */
    public int least(int track) throws IndexOutOfBoundsException, NoSuchElementException {
        trackNumbered(track);
        int found = book.leastOn(track);
        if (found == NONE) {
            throw new NoSuchElementException("no lap of the track stands");
        }
        return found;
    }

    // Store

    /** Returns the base of a lap. */
    public int base(int lap) throws IndexOutOfBoundsException, NoSuchElementException {
        Lap asked = lapNumbered(lap);
        if (asked.base == NONE) {
            throw new NoSuchElementException("the lap is stored whole");
        }
        return asked.base;
    }

    /** Returns the depth of a lap. */
    public int depth(int lap) throws IndexOutOfBoundsException {
        return lapNumbered(lap).depth;
    }

    /** Returns in how many parts a lap is stored. */
    public int parts(int lap) throws IndexOutOfBoundsException {
        return lapNumbered(lap).parts;
    }

    /** Returns in how many parts all laps are stored. */
    public int stored() {
        int sum = 0;
        for (int i = 0; i < book.count; i++) {
            sum += book.laps[i].parts;
        }
        return sum;
    }

    /** Returns how many laps, struck out or not, rest on a lap. */
    public int resting(int lap) throws IndexOutOfBoundsException {
        lapNumbered(lap);
        return book.countResting(lap);
    }

    // The steward

    /** Strikes a lap out and returns how many laps were stored against it. */
    public int strike(int lap) throws IndexOutOfBoundsException, UnsupportedOperationException {
        Lap struck = lapNumbered(lap);
        if (!struck.stands) {
            throw new UnsupportedOperationException("the lap is struck out");
        }
        struck.stands = false;
        return book.moveFrom(lap, struck.base);
    }

    /** Gives a lap back that was struck out and returns how many laps stand then. */
    public int giveBack(int lap) throws IndexOutOfBoundsException, UnsupportedOperationException {
        Lap struck = lapNumbered(lap);
        if (struck.stands) {
            throw new UnsupportedOperationException("the lap stands");
        }
        struck.stands = true;
        return book.countStanding();
    }

    /** Tells whether a lap stands. */
    public boolean stands(int lap) throws IndexOutOfBoundsException {
        return lapNumbered(lap).stands;
    }

    /** Sets the penalty of a lap and returns the one before. */
    public int penalty(int lap, int hundredths)
            throws IndexOutOfBoundsException, IllegalArgumentException {
        Lap punished = lapNumbered(lap);
        if (!isWithin(hundredths, 0, WORST_PENALTY)) {
            throw new IllegalArgumentException("the penalty is out of range");
        }
        int before = punished.penalty;
        punished.penalty = hundredths;
        return before;
    }

    // Seasons

    /** Opens a round, by which one that is open is shut, and returns its number. */
    public int round(int track) throws IndexOutOfBoundsException, IllegalStateException {
        trackNumbered(track);
        if (season.rounds >= ROUNDS) {
            throw new IllegalStateException("there are 10 rounds");
        }
        season.openOn(track);
        return season.open;
    }

    /** Shuts the round that is open and returns its number. */
    public int shut() throws IllegalStateException {
        int before = season.open;
        if (before == NONE) {
            throw new IllegalStateException("no round is open");
        }
        season.open = NONE;
        return before;
    }

    /** Returns the lap that a driver has in a round. */
    public int lapIn(int round, int driver)
            throws IndexOutOfBoundsException, NoSuchElementException {
        return findLap(round, driver);
    }

    /** Returns the place of a driver in a round, from 1. */
    public int placeIn(int round, int driver)
            throws IndexOutOfBoundsException, NoSuchElementException {
        return season.lapsAhead(book, findLap(round, driver)) + 1;
    }

    private int findLap(int round, int driver) {
        if (round < 0 || round >= season.rounds) {
            throw new IndexOutOfBoundsException("no such round");
        }
        requireDriver(driver);
        season.findLaps(book, round);
        if (season.lapOf[driver] == NONE) {
            throw new NoSuchElementException("the driver has no lap in the round");
        }
        return season.lapOf[driver];
    }

    /** Tells how many rounds are dropped and returns how many before. */
    public int drop(int rounds) throws IllegalArgumentException {
        if (!isWithin(rounds, 0, MOST_DROPPED)) {
            throw new IllegalArgumentException("so many rounds are not dropped");
        }
        int before = season.dropped;
        season.dropped = rounds;
        return before;
    }

    /** Returns the points of a driver in the season. */
    public int points(int driver) throws IndexOutOfBoundsException {
        requireDriver(driver);
        season.reckon(book);
        return season.points[driver];
    }

    /** Returns how many rounds a driver has won. */
    public int wins(int driver) throws IndexOutOfBoundsException {
        requireDriver(driver);
        season.reckon(book);
        return season.won[driver];
    }

    /** Returns the driver at a place of the season, from 0. */
    public int standing(int place) throws IndexOutOfBoundsException {
        if (place < 0 || place >= DRIVERS) {
            throw new IndexOutOfBoundsException("no such place");
        }
        season.reckon(book);
        return season.driverBehind(place);
    }

    // Figures

    /** Returns a sum over all laps. */
    public long checksum() {
        long sum = 7;
        for (int i = 0; i < book.count; i++) {
            Lap lap = book.laps[i];
            sum = 31 * sum + lap.time + lap.penalty + lap.parts + (lap.stands ? 1 : 0);
        }
        return sum;
    }

    /** Returns what share of all inputs is stored. */
    public float shareStored() throws NoSuchElementException {
        int inputs = 0;
        for (int i = 0; i < book.count; i++) {
            inputs += book.laps[i].ticks;
        }
        if (inputs == 0) {
            throw new NoSuchElementException("there are no laps");
        }
        return (float) stored() / (float) inputs;
    }

    /** Returns the mean of what laps that stand count with. */
    public double meanTime() throws NoSuchElementException {
        int standing = book.countStanding();
        if (standing == 0) {
            throw new NoSuchElementException("no lap stands");
        }
        int sum = 0;
        for (int i = 0; i < book.count; i++) {
            Lap lap = book.laps[i];
            sum += lap.stands ? lap.counted() : 0;
        }
        return (double) sum / (double) standing;
    }

    /** Tells whether each lap, driven again, has its time, and the store is as it should be. */
    public boolean isSound() {
        for (int i = 0; i < book.count; i++) {
            Lap lap = book.laps[i];
            rideAgain(lap, lap.ticks);
            boolean hasItsTime = ride.isOver && ride.time == lap.time;
            boolean restsOnStruck = book.has(lap.base) && !book.laps[lap.base].stands;
            if (!hasItsTime || restsOnStruck || lap.depth > DEEPEST) {
                return false;
            }
        }
        return true;
    }

    // What several calls need

    private void rideAgain(Lap lap, int count) {
        ride.follow(lap.inputs, count, trackNumbered(lap.track), carNumbered(lap.car));
    }

    private static boolean isWithin(int number, int lowest, int highest) {
        return number >= lowest && number <= highest;
    }

    private Track trackNumbered(int track) {
        if (track < 0 || track >= trackCount) {
            throw new IndexOutOfBoundsException("no such track");
        }
        return tracks[track];
    }

    private Car carNumbered(int car) {
        if (car < 0 || car >= carCount) {
            throw new IndexOutOfBoundsException("no such car");
        }
        return cars[car];
    }

    private Lap lapNumbered(int lap) {
        if (!book.has(lap)) {
            throw new IndexOutOfBoundsException("no such lap");
        }
        return book.laps[lap];
    }

    private void requireDriver(int driver) {
        if (driver < 0 || driver >= DRIVERS) {
            throw new IndexOutOfBoundsException("no such driver");
        }
    }

    /** A ring of stretches. */
    private static final class Track {
        final int[] ends = new int[STRETCHES];
        final int[] limits = new int[STRETCHES];
        int stretches;
        int length;
        boolean isDriven;

        void append(int stretchLength, int limit) {
            if (stretches < STRETCHES) {
                length += stretchLength;
                ends[stretches] = length;
                limits[stretches] = limit;
                stretches++;
            }
        }

        int limitOf(int place) {
            for (int i = 0; i < stretches; i++) {
                if (place < ends[i]) {
                    return limits[i];
                }
            }
            return 0;
        }
    }

    /** What a car can do. */
    private static final class Car {
        int top;
        int pull;
        int grip;

        int speedAfter(int speed, char input) {
            if (input == '+') {
                return Math.min(top, speed + pull);
            }
            if (input == '-') {
                return Math.max(0, speed - pull);
            }
            return speed;
        }
    }

    /** A lap while it is driven; one object serves all, as no lap is driven while another is. */
    private static final class Ride {
        int place;
        int speed;
        int ticks;
        int time;
        boolean isOver;

        /** Drives by so many inputs, or fewer if the lap is over before. */
        void follow(char[] inputs, int count, Track track, Car car) {
            place = 0;
            speed = 0;
            ticks = 0;
            time = 0;
            isOver = false;
            for (int i = 0; i < count && i < inputs.length && !isOver; i++) {
                move(inputs[i], track, car);
            }
        }

        private void move(char input, Track track, Car car) {
            ticks++;
            speed = car.speedAfter(speed, input);
            place += speed;
            if (place >= track.length) {
                finish(place - track.length);
            } else if (speed > track.limitOf(place) + car.grip) {
                speed = speed / 2;
            }
        }

        private void finish(int beyond) {
            isOver = true;
            int saved = speed > 0 ? 100 * beyond / speed : 0;
            time = 100 * ticks - saved;
        }
    }

    /** A lap that is kept. */
    private static final class Lap {
        final char[] inputs = new char[INPUTS];
        int ticks;
        int time;
        int driver;
        int track;
        int car;
        int ghost;
        int round;
        int penalty;
        boolean stands;
        int base;
        int depth;
        int parts;

        /** Keeps a ride that is over, with those of its inputs that were driven. */
        void keep(Ride ride, char[] typed) {
            for (int i = 0; i < ride.ticks && i < INPUTS && i < typed.length; i++) {
                inputs[i] = typed[i];
            }
            ticks = ride.ticks;
            time = ride.time;
            stands = true;
        }

        int counted() {
            return time + penalty;
        }

        int inputsUnlike(Lap other) {
            int unlike = 0;
            for (int i = 0; i < ticks && i < INPUTS; i++) {
                if (i >= other.ticks || inputs[i] != other.inputs[i]) {
                    unlike++;
                }
            }
            return unlike;
        }
    }

    /**
     * The laps by their numbers, and how they are stored. A ghost is older than the lap that races
     * it, and a base is a ghost or a base of one, so that a base always has the lower number: a
     * walk through the laps in their order meets each base before what rests on it.
     */
    private static final class Book {
        final Lap[] laps = new Lap[LAPS];
        int count;

        Book() {
            for (int i = 0; i < LAPS; i++) {
                laps[i] = new Lap();
            }
        }

        boolean has(int lap) {
            return lap >= 0 && lap < count;
        }

        boolean hasGhost(int lap, int track) {
            return has(lap) && laps[lap].track == track && laps[lap].stands;
        }

        /** Numbers a lap, which stands in the next row already, and stores it by its ghost. */
        void add(Lap lap) {
            boolean isWhole = !has(lap.ghost) || laps[lap.ghost].depth >= DEEPEST;
            store(lap, isWhole ? NONE : lap.ghost);
            settleDepth(lap);
            count++;
        }

        private void store(Lap lap, int base) {
            lap.base = base;
            lap.parts = has(base) ? lap.inputsUnlike(laps[base]) : lap.ticks;
        }

        private void settleDepth(Lap lap) {
            lap.depth = has(lap.base) ? laps[lap.base].depth + 1 : 0;
        }

        /** Stores what was stored against a lap against another, or whole; tells how many were. */
        int moveFrom(int lap, int base) {
            int moved = 0;
            for (int i = 0; i < count; i++) {
                if (laps[i].base == lap) {
                    store(laps[i], base);
                    moved++;
                }
                settleDepth(laps[i]);
            }
            return moved;
        }

        int countResting(int lap) {
            int resting = 0;
            for (int i = lap + 1; i < count; i++) {
                if (restsOn(i, lap)) {
                    resting++;
                }
            }
            return resting;
        }

        private boolean restsOn(int lap, int below) {
            int met = lap;
            for (int step = 0; step < DEEPEST && has(met) && met != below; step++) {
                met = laps[met].base;
            }
            return met == below;
        }

        int countStanding() {
            int standing = 0;
            for (int i = 0; i < count; i++) {
                if (laps[i].stands) {
                    standing++;
                }
            }
            return standing;
        }

        int leastOn(int track) {
            int found = NONE;
            for (int i = 0; i < count; i++) {
                if (laps[i].stands && laps[i].track == track && isAhead(i, found)) {
                    found = i;
                }
            }
            return found;
        }

        /** Tells whether a lap counts with less than another, or as much with a lower number. */
        boolean isAhead(int lap, int other) {
            if (!has(lap) || !has(other)) {
                return has(lap);
            }
            int counted = laps[lap].counted();
            int otherCounted = laps[other].counted();
            return counted < otherCounted || counted == otherCounted && lap < other;
        }
    }

    /** The rounds, and what they bring the drivers; the rows are filled anew before each use. */
    private static final class Season {
        final int[] tracks = new int[ROUNDS];
        int rounds;
        int open = NONE;
        int dropped;
        final int[] lapOf = new int[DRIVERS];
        final int[] scores = new int[DRIVERS * ROUNDS];
        final int[] points = new int[DRIVERS];
        final int[] won = new int[DRIVERS];

        void openOn(int track) {
            if (rounds < ROUNDS) {
                tracks[rounds] = track;
                open = rounds;
                rounds++;
            }
        }

        /** Tells the round that is open on a track, or that there is none. */
        int roundOn(int track) {
            return open >= 0 && open < rounds && tracks[open] == track ? open : NONE;
        }

        /** Fills the row of the laps that the drivers have in a round. */
        void findLaps(Book book, int round) {
            for (int driver = 0; driver < DRIVERS; driver++) {
                lapOf[driver] = NONE;
            }
            for (int i = 0; i < book.count; i++) {
                Lap lap = book.laps[i];
                if (lap.stands && lap.round == round && book.isAhead(i, lapOf[lap.driver])) {
                    lapOf[lap.driver] = i;
                }
            }
        }

        /** Counts the drivers whose lap, in the row that was filled last, is ahead of a lap. */
        int lapsAhead(Book book, int lap) {
            int ahead = 0;
            for (int driver = 0; driver < DRIVERS; driver++) {
                if (book.isAhead(lapOf[driver], lap)) {
                    ahead++;
                }
            }
            return ahead;
        }

        /** Fills the rows of the drivers' points and of the rounds that they have won. */
        void reckon(Book book) {
            for (int driver = 0; driver < DRIVERS; driver++) {
                points[driver] = 0;
                won[driver] = 0;
            }
            for (int round = 0; round < rounds; round++) {
                findLaps(book, round);
                for (int driver = 0; driver < DRIVERS; driver++) {
                    score(book, round, driver);
                }
            }
            for (int driver = 0; driver < DRIVERS; driver++) {
                for (int i = 0; i < dropped && i < rounds; i++) {
                    points[driver] -= takeLeast(driver);
                }
            }
        }

        private void score(Book book, int round, int driver) {
            int score = 0;
            if (lapOf[driver] != NONE) {
                int ahead = lapsAhead(book, lapOf[driver]);
                score = ahead < POINTS.length ? POINTS[ahead] : 0;
                won[driver] += ahead == 0 ? 1 : 0;
            }
            scores[driver * ROUNDS + round] = score;
            points[driver] += score;
        }

        /** Returns the least score of a driver that was not yet taken, and takes it. */
        private int takeLeast(int driver) {
            int first = driver * ROUNDS;
            int found = first;
            for (int i = first + 1; i < first + rounds; i++) {
                if (scores[i] < scores[found]) {
                    found = i;
                }
            }
            int least = scores[found];
            scores[found] = TAKEN;
            return least;
        }

        /** Returns the driver whom so many are ahead of, by the rows that were filled last. */
        int driverBehind(int place) {
            int found = 0;
            for (int driver = 0; driver < DRIVERS; driver++) {
                int ahead = 0;
                for (int other = 0; other < DRIVERS; other++) {
                    if (isAheadInSeason(other, driver)) {
                        ahead++;
                    }
                }
                if (ahead == place) {
                    found = driver;
                }
            }
            return found;
        }

        private boolean isAheadInSeason(int driver, int other) {
            if (points[driver] != points[other]) {
                return points[driver] > points[other];
            }
            if (won[driver] != won[other]) {
                return won[driver] > won[other];
            }
            return driver < other;
        }
    }
}
