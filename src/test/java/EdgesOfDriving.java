/** Promises 7 to 10 and the terms of driving, a check for each sentence's edges. */
final class EdgesOfDriving {
    private static final int LEAST = Sentence.LEAST;
    private static final int MOST = Sentence.MOST;

    private EdgesOfDriving() {
    }

    static void check() {
        Check.parts(EdgesOfDriving::type, EdgesOfDriving::typeEachTimes,
                EdgesOfDriving::typeEverySign, EdgesOfDriving::typeIsRefused, EdgesOfDriving::wipe,
                EdgesOfDriving::drive, EdgesOfDriving::driveNumbers,
                EdgesOfDriving::driveWithoutGhost, EdgesOfDriving::driveIsOver,
                EdgesOfDriving::driveThirty, EdgesOfDriving::tryOut,
                EdgesOfDriving::tryOutIsRefused, EdgesOfDriving::begins, EdgesOfDriving::speeds,
                EdgesOfDriving::slides, EdgesOfDriving::ends, EdgesOfDriving::endsJust);
    }

    static Ghostracer typed(int count) {
        Ghostracer game = Games.bend();
        for (int i = 0; i < count; i++) {
            game.type('+', 1);
        }
        return game;
    }

    private static void type() {
        Sentence types = Sentence.of(7, "Types an input so often.", "`input`: '+', '-' or '='");
        String word = "=".repeat(20) + "-".repeat(20) + "=".repeat(14) + "-+====";
        Ghostracer game = Games.type(Games.five(), word);
        game.drive(0, 0, 0, -1);
        for (int i = 0; i < 60; i++) {
            int tick = i;
            types.due("the input at " + i, word.charAt(i), game, g -> g.inputAt(0, tick));
        }
        Sentence returns = Sentence.of(7, "Returns how many are typed.");
        Ghostracer counted = Games.bend();
        for (int i = 1; i <= 60; i++) {
            char input = "+-=".charAt(i % 3);
            returns.due("one by one", i, counted, g -> g.type(input, 1));
        }
        Ghostracer most = new Ghostracer();
        returns.due("20 of 60", 20, most, g -> g.type('+', 20));
        returns.due("40 of 60", 40, most, g -> g.type('-', 20));
        returns.due("60 of 60", 60, most, g -> g.type('=', 20));
    }

    private static void typeEachTimes() {
        Sentence times = Sentence.of(7, "`times`: how often, 1 to 20");
        for (int i = 1; i <= 20; i++) {
            int often = i;
            times.due("the times " + i, i, new Ghostracer(), g -> g.type('+', often));
            times.due("wiped, the times " + i, i, new Ghostracer(), g -> {
                g.type('=', often);
                return g.wipe();
            });
            times.due("up to 60, the times " + i, 60, typed(60 - i), g -> g.type('-', often));
        }
    }

    private static void typeEverySign() {
        Sentence thrown = Sentence.thrown(7, Check.ARGUMENT,
                "there is no such input, or the number is out of range");
        Ghostracer game = new Ghostracer();
        for (int i = 0; i <= 0xffff; i++) {
            char input = (char) i;
            if ("+-=".indexOf(input) < 0) {
                thrown.due("the sign " + i, Check.ARGUMENT, game, g -> g.type(input, 1));
            }
            if (i % 256 == 255) {
                thrown.due("nothing is typed up to the sign " + i, 0, game, g -> g.wipe());
                game = new Ghostracer();
            }
        }
        char[] signs = {0, '*', ',', '.', '<', '>', ' ', 'x', 256 + '+', 256 + '-', 256 + '=',
            0xffff};
        for (char input : signs) {
            thrown.refuses("the sign " + (int) input, Games::busy, g -> g.type(input, 1));
        }
        for (char input : "+-=".toCharArray()) {
            thrown.refusesEach("the times of " + input, Games::busy, (g, n) -> g.type(input, n),
                    LEAST, LEAST + 59, -20, -1, 0, 21, 22, 60, 257, 65537, MOST - 4, MOST);
        }
        thrown.refuses("both", Games::busy, g -> g.type('x', 0));
    }

    private static void typeIsRefused() {
        Sentence more = Sentence.thrown(7, Check.STATE, "more than 60 would be typed");
        for (int i = 1; i <= 20; i++) {
            int times = i;
            more.refuses("61 by " + i, () -> typed(61 - times), g -> g.type('-', times));
            more.refuses("60 are typed, and " + i, () -> typed(60), g -> g.type('=', times));
        }
        more.due("a refused input is not typed in part", 60, typed(59), g -> {
            Check.answerOf(g, h -> h.type('+', 20));
            return g.type('+', 1);
        });
        more.due("room again behind a wipe", 20, typed(60), g -> {
            g.wipe();
            return g.type('+', 20);
        });
        more.due("room again behind a lap", 20, typed(60), g -> {
            g.drive(0, 0, 0, -1);
            return g.type('+', 20);
        });
    }

    private static void wipe() {
        Sentence wipes = Sentence.of(8, "Empties what is typed.", "Returns how many were.");
        wipes.due("a new object", 0, new Ghostracer(), g -> g.wipe());
        wipes.due("nothing typed", 0, Games.ladder(), g -> g.wipe());
        for (int i = 0; i <= 60; i++) {
            Ghostracer game = typed(i);
            wipes.due("how many", i, game, g -> g.wipe());
            wipes.due("none any more", 0, game, g -> g.wipe());
        }
        Ghostracer game = Games.type(Games.five(), "=".repeat(60));
        game.wipe();
        wipes.due("typing begins at the first", 5, Games.type(game, "+++"), g -> g.type('-', 2));
        wipes.due("what was typed is no more", Check.UNSUPPORTED, game, g -> g.tryOut(0, 0));
        game.wipe();
        Games.type(game, "+====");
        wipes.due("what is typed anew is all", 500, game, g -> g.tryOut(0, 0));
        wipes.due("five", 5, game, g -> g.wipe());
        wipes.due("behind a lap", 0, Games.chain(), g -> g.wipe());
    }

    private static void drive() {
        Sentence drives = Sentence.of(9, "Drives a lap by the typed inputs, which are empty then.");
        Ghostracer game = Games.type(Games.five(), "+" + "=".repeat(59));
        drives.due("of sixty five are driven", 0, game, g -> g.drive(0, 0, 0, -1));
        drives.due("its inputs", 5, game, g -> g.ticks(0));
        drives.due("empty", 0, game, g -> g.wipe());
        drives.due("the next lap needs inputs of its own", Check.UNSUPPORTED, game,
                g -> g.drive(0, 0, 0, -1));
        drives.due("typing begins at the first", 1, game, g -> g.type('+', 1));
        Sentence returns = Sentence.of(9, "Returns its number.");
        Ghostracer full = Games.five();
        for (int i = 0; i < 30; i++) {
            Games.type(full, "+++++");
            returns.due("the number", i, full, g -> g.drive(0, 0, 0, -1));
        }
        returns.due("not on each track from 0", 5, Games.type(Games.busy(), "++++"),
                g -> g.drive(0, 1, 1, -1));
        returns.due("those that are struck out are counted", 6, Games.chain(), g -> {
            g.strike(5);
            return Games.drive(g, "+====", 0, -1);
        });
    }

    private static Ghostracer fourOfEach() {
        Ghostracer game = new Ghostracer();
        for (int i = 0; i < 4; i++) {
            game.track();
            game.stretch(i, 10 + i, 9);
            game.car(9, 1 + i, 3);
        }
        return game;
    }

    private static void driveNumbers() {
        Sentence driver = Sentence.of(9, "`driver`: the driver, 0 to 5");
        Ghostracer game = Games.five();
        for (int i = 0; i < 6; i++) {
            int number = i;
            driver.due("the lap of " + i, i, Games.type(game, "+++++"),
                    g -> g.drive(number, 0, 0, -1));
            driver.due("the driver of lap " + i, i, game, g -> g.of(number, 'd'));
        }
        Sentence others = Sentence.of(9, "`track`: the number of the track",
                "`car`: the number of the car");
        Ghostracer each = fourOfEach();
        for (int i = 0; i < 16; i++) {
            int track = i / 4;
            int car = i % 4;
            Games.type(each, "+".repeat(20));
            others.due("the lap", i, each, g -> g.drive(0, track, car, -1));
        }
        for (int i = 0; i < 16; i++) {
            int lap = i;
            others.due("the track of " + i, i / 4, each, g -> g.of(lap, 't'));
            others.due("the car of " + i, i % 4, each, g -> g.of(lap, 'c'));
            others.due("the first speed of " + i, 1 + i % 4, each, g -> g.replay(lap, 1, true));
        }
        Sentence none = Sentence.thrown(9, Check.INDEX, "there is no such driver, track or car");
        Numbers.noSuchDriver(none, (g, n) -> g.drive(n, 0, 0, -1));
        Numbers.noSuchTrack(none, (g, n) -> g.drive(0, n, 0, -1));
        Numbers.noSuchCar(none, (g, n) -> g.drive(0, 0, n, -1));
        none.due("the last of each is not refused", 0, Games.type(fourOfEach(), "+".repeat(20)),
                g -> g.drive(5, 3, 3, -1));
    }

    private static void driveWithoutGhost() {
        Sentence ghost = Sentence.of(9, "`ghost`: the number of the ghost, or -1 for none");
        ghost.due("none", -1, Games.ladder(), g -> g.of(0, 'g'));
        ghost.due("the smallest and the largest", 28, Games.ladder(), g -> g.of(29, 'g'));
        ghost.due("0", 0, Games.ladder(), g -> g.of(1, 'g'));
        ghost.due("one that was given back", 7, Games.type(Games.chain(), "+====+"), g -> {
            g.strike(2);
            g.giveBack(2);
            g.drive(0, 0, 0, 2);
            return Games.drive(g, "+====", 0, 6);
        });
        Sentence thrown = Sentence.thrown(9, Check.NO_ELEMENT,
                "there is no such ghost on this track that stands, and it is not -1");
        Check.Setup busy = () -> Games.type(Games.busy(), "++++");
        thrown.refusesEach("the ghost", busy, (g, n) -> g.drive(0, 0, 0, n), LEAST, -257, -2, 5, 6,
                29, 30, 256, 65536, 65535, MOST);
        thrown.refuses("itself, the first lap", () -> Games.type(Games.five(), "+===="),
                g -> g.drive(0, 0, 0, 0));
        thrown.refuses("on another track", busy, g -> g.drive(0, 1, 1, 0));
        thrown.refuses("on another track, the last", busy, g -> g.drive(0, 0, 0, 4));
        thrown.refuses("struck out", busy, g -> g.drive(0, 0, 0, 2));
        thrown.due("on this track", 5, busy.make(), g -> g.drive(0, 1, 1, 4));
        thrown.due("on this track, none is needed", 5, busy.make(), g -> g.drive(0, 0, 0, -1));
        thrown.due("whose own ghost is struck out", 5, busy.make(), g -> g.drive(0, 0, 0, 3));
    }

    /** Games in which the typed inputs, if any, drive no lap on the track 0 with the car 0. */
    private static Check.Setup[] notOver() {
        return new Check.Setup[] {Games::bend, Games::five, Games::chain,
            () -> Games.type(Games.five(), "++++"), () -> Games.type(Games.five(), "+===-"),
            () -> Games.type(Games.five(), "=".repeat(60)),
            () -> Games.type(Games.five(), "-".repeat(60)),
            () -> Games.type(Games.five(), "=".repeat(56) + "++++"),
            () -> Games.type(slow(61), "+".repeat(60)), () -> Games.type(slow(360), "+")};
    }

    /** A track of so many places, and a car of the speed 1. */
    private static Ghostracer slow(int length) {
        Ghostracer game = new Ghostracer();
        game.track();
        Games.road(game, 0, length);
        game.car(1, 1, 0);
        return game;
    }

    private static void driveIsOver() {
        Sentence thrown = Sentence.thrown(9, Check.UNSUPPORTED,
                "the track has no stretches, or the lap would not be over");
        for (Check.Setup setup : notOver()) {
            thrown.refuses("not over", setup, g -> g.drive(0, 0, 0, -1));
        }
        thrown.refuses("no stretches", Games::busy, g -> g.drive(0, 2, 1, -1));
        thrown.refuses("no stretches, nothing typed", Games::fourTracks,
                g -> g.drive(0, 3, 0, -1));
        thrown.due("over with the last of sixty", 0, Games.type(slow(60), "+".repeat(60)),
                g -> g.drive(0, 0, 0, -1));
        thrown.due("over with the only one", 0, Games.type(slow(1), "+"),
                g -> g.drive(0, 0, 0, -1));
        thrown.due("it stays typed", 5, Games.type(Games.five(), "++++"), g -> {
            Check.answerOf(g, h -> h.drive(0, 0, 0, -1));
            return g.type('+', 1);
        });
    }

    private static void driveThirty() {
        Sentence thrown = Sentence.thrown(9, Check.STATE, "there are 30 laps");
        Check.Setup full = () -> Games.type(Games.ladder(), "+++++");
        thrown.refuses("a thirty-first", full, g -> g.drive(0, 0, 0, -1));
        thrown.refuses("a thirty-first with a ghost", full, g -> g.drive(5, 0, 0, 29));
        thrown.refuses("those struck out are counted", () -> {
            Ghostracer game = full.make();
            game.strike(29);
            return game;
        }, g -> g.drive(0, 0, 0, 28));
        Check.Setup another = () -> {
            Ghostracer two = full.make();
            two.track();
            two.stretch(1, 5, 9);
            return two;
        };
        thrown.refuses("a thirty-first on a track without laps", another,
                g -> g.drive(0, 1, 0, -1));
        thrown.due("which can have stretches still", 8, another.make(), g -> {
            Check.answerOf(g, h -> h.drive(0, 1, 0, -1));
            return g.stretch(1, 3, 9);
        });
        Ghostracer game = Games.five();
        for (int i = 0; i < 29; i++) {
            Games.drive(game, "+++++", 0, -1);
        }
        thrown.due("a thirtieth is not refused", 29, Games.type(game, "+++++"),
                g -> g.drive(0, 0, 0, -1));
    }

    private static void tryOut() {
        Sentence tries = Sentence.of(10, "Returns in how many hundredths the typed inputs would"
                + " drive a lap; they stay typed.", "Returns the time.",
                "`track`: the number of the track", "`car`: the number of the car");
        Ghostracer game = Games.type(fourOfEach(), "+".repeat(20));
        for (int i = 0; i < 16; i++) {
            int track = i % 4;
            int car = i / 4;
            int due = time(10 + track, 9, 1 + car);
            tries.due("the track " + track + ", the car " + car, due, game,
                    g -> g.tryOut(track, car));
        }
        tries.due("they stay typed", 20, game, g -> g.wipe());
        tries.due("the shortest time", 25, Games.type(Games.lapOn(1, 9, 4, "+"), "+"),
                g -> g.tryOut(0, 0));
        tries.due("the longest time", 6000, Games.type(slow(60), "+".repeat(60)),
                g -> g.tryOut(0, 0));
        tries.due("thirty laps", 500, Games.type(Games.ladder(), "+++++"), g -> g.tryOut(0, 0));
        Ghostracer twice = Games.type(Games.five(), "+====---");
        tries.due("once", 500, twice, g -> g.tryOut(0, 0));
        tries.due("twice", 500, twice, g -> g.tryOut(0, 0));
        tries.due("no lap is kept", 0, twice, g -> g.laps());
        tries.due("what is typed then goes behind", 20, twice, g -> g.type('+', 12));
    }

    /** The time by nothing but '+' where nothing slides. */
    private static int time(int length, int top, int pull) {
        int place = 0;
        int ticks = 0;
        int speed = 0;
        while (place < length) {
            ticks++;
            speed = Math.min(top, ticks * pull);
            place += speed;
        }
        return 100 * ticks - cut(100 * (place - length), speed);
    }

    /** A division in whole steps, which can't be a rounded one. */
    private static int cut(int number, int by) {
        int times = 0;
        for (int left = number; left >= by; left -= by) {
            times++;
        }
        return times;
    }

    private static void tryOutIsRefused() {
        Sentence none = Sentence.thrown(10, Check.INDEX, "there is no such track or car");
        Numbers.noSuchTrack(none, (g, n) -> g.tryOut(n, 0));
        Numbers.noSuchCar(none, (g, n) -> g.tryOut(0, n));
        Sentence thrown = Sentence.thrown(10, Check.UNSUPPORTED,
                "the track has no stretches, or the lap would not be over");
        for (Check.Setup setup : notOver()) {
            thrown.refuses("not over", setup, g -> g.tryOut(0, 0));
        }
        thrown.refuses("no stretches", Games::busy, g -> g.tryOut(2, 1));
        thrown.refuses("thirty laps and nothing typed", Games::ladder, g -> g.tryOut(0, 0));
        thrown.due("over with the last of sixty", 6000, Games.type(slow(60), "+".repeat(60)),
                g -> g.tryOut(0, 0));
    }

    private static void begins() {
        Sentence begins = Sentence.ofTerms("A lap begins at the place 0 with the speed 0, and goes"
                + " by inputs, '+', '-' and '=', one a tick.");
        Ghostracer game = Games.five();
        Games.drive(game, "+====", 0, -1);
        Games.drive(game, "=+====", 0, 0);
        Games.drive(game, "-+====", 0, 0);
        for (int i = 0; i < 3; i++) {
            int lap = i;
            begins.due("the place", 0, game, g -> g.replay(lap, 0, false));
            begins.due("the speed", 0, game, g -> g.replay(lap, 0, true));
            begins.due("one a tick", i == 0 ? 1 : 0, game, g -> g.replay(lap, 1, false));
        }
    }

    private static void speeds() {
        Sentence speeds = Sentence.ofTerms("By '+' the speed is the pull more, at most the top"
                + " speed, by '-' the pull less, at least 0.");
        speeds.due("'-' at the speed 0", 200, Games.type(Games.lapOn(1, 1, 1, "+"), "-+"),
                g -> g.tryOut(0, 0));
        // By 2, 3, 1, 0 and 2 the car is at 8.
        speeds.due("'-' at a speed below the pull", 500,
                Games.type(Games.lapOn(8, 3, 2, "++++"), "++--+"), g -> g.tryOut(0, 0));
        Sentence places = Sentence.ofTerms("Then the place is the speed more.");
        for (int i = 0; i < 36; i++) {
            int top = 1 + i / 4;
            int pull = 1 + i % 4;
            int[] due = new int[23];
            int[] place = new int[23];
            for (int tick = 1; tick < 23; tick++) {
                due[tick] = speedDue(top, pull, tick);
                place[tick] = place[tick - 1] + due[tick];
            }
            String word = "+".repeat(10) + "-".repeat(10) + "=+";
            // One place beyond where 21 ticks lead, so that the 22nd, a '+', ends the lap.
            Ghostracer game = Games.lapOn(place[21] + 1, top, pull, word);
            String car = "top " + top + ", pull " + pull + ", tick ";
            for (int tick = 0; tick < 23; tick++) {
                int behind = tick;
                speeds.due(car + tick, due[tick], game, g -> g.replay(0, behind, true));
                places.due(car + tick, place[tick], game, g -> g.replay(0, behind, false));
            }
        }
    }

    /** Ten '+', then ten '-', then '=' and '+'. */
    private static int speedDue(int top, int pull, int tick) {
        if (tick <= 10) {
            return Math.min(top, tick * pull);
        }
        int least = Math.max(0, Math.min(top, 10 * pull) - Math.min(tick - 10, 10) * pull);
        return tick == 22 ? Math.min(top, least + pull) : least;
    }

    private static void slides() {
        Sentence slides = Sentence.ofTerms("Otherwise, if the speed is more than the limit of the"
                + " stretch where the place is, the first place of a stretch being in it, plus the"
                + " grip, the car slides: the speed becomes half of it, cut.");
        for (int limit = 1; limit <= 9; limit++) {
            for (int grip = 0; grip <= 3; grip++) {
                for (int speed = 1; speed <= 9; speed++) {
                    slide(slides, limit, grip, speed);
                }
            }
        }
        Ghostracer end = new Ghostracer();
        end.track();
        end.stretch(0, 4, 1);
        end.car(4, 4, 0);
        Games.drive(end, "+", 0, -1);
        slides.due("not at the end, just the length", 4, end, g -> g.replay(0, 1, true));
        Games.drive(end, "-+", 0, -1);
        slides.due("nor behind a slow tick", 4, end, g -> g.replay(1, 2, true));
        slides.due("its time is by the whole speed", 200, end, g -> g.time(1, false));
        Ghostracer more = new Ghostracer();
        more.track();
        more.stretch(0, 1, 1);
        more.car(9, 4, 0);
        Games.drive(more, "+", 0, -1);
        slides.due("not at the end, more than the length", 4, more, g -> g.replay(0, 1, true));
        slides.due("its place", 4, more, g -> g.replay(0, 1, false));
    }

    /**
     * With just this speed, which three '+' bring, the fourth tick leads to the first place of a
     * stretch of the limit, and on another track to the last place of the one before.
     */
    private static void slide(Sentence slides, int limit, int grip, int speed) {
        int before = Math.min(4, speed) + Math.min(8, speed) + speed;
        Ghostracer game = new Ghostracer();
        for (int track = 0; track < 2; track++) {
            game.track();
            Games.road(game, track, before + speed + track);
            game.stretch(track, 30, limit);
        }
        game.car(speed, 4, grip);
        for (int track = 0; track < 2; track++) {
            Games.type(game, "+++=" + "+".repeat(56));
            game.drive(0, track, 0, -1);
        }
        int due = speed > limit + grip ? speed / 2 : speed;
        String what = "limit " + limit + ", grip " + grip + ", speed " + speed;
        slides.due(what, due, game, g -> g.replay(0, 4, true));
        slides.due(what + ", the place", before + speed, game, g -> g.replay(0, 4, false));
        slides.due(what + ", last place before", speed, game, g -> g.replay(1, 4, true));
    }

    private static final String ENDS = "If it is the length of the track then, the sum of its"
            + " stretches, or more, the lap is over, and its time is 100 times its ticks, less what"
            + " 100 times by how much the place is more, divided by the speed, is, cut.";

    /** Each speed and each number of places that it can lead beyond the end. */
    private static void ends() {
        Sentence ends = Sentence.ofTerms(ENDS);
        for (int speed = 1; speed <= 9; speed++) {
            int place = speed * (speed + 3) / 2;
            for (int beyond = 0; beyond < speed; beyond++) {
                Ghostracer game = Games.lapOn(place - beyond, speed, 1, "+".repeat(speed + 1));
                int due = 100 * (speed + 1) - cut(100 * beyond, speed);
                String what = "speed " + speed + ", beyond " + beyond;
                ends.due(what, due, game, g -> g.time(0, false));
                ends.due(what + ", tried out", due, Games.type(game, "+".repeat(60)),
                        g -> g.tryOut(0, 0));
                int last = speed + 1;
                ends.due(what + ", the last place", place, game, g -> g.replay(0, last, false));
            }
        }
        ends.due("100 / 3 is 33", 367, Games.lapOn(8, 3, 1, "++++"), g -> g.time(0, false));
        ends.due("200 / 3 is 66", 334, Games.lapOn(7, 3, 1, "++++"), g -> g.time(0, false));
        ends.due("800 / 9 is 88", 912, Games.lapOn(46, 9, 1, "+".repeat(10)),
                g -> g.time(0, false));
    }

    private static void endsJust() {
        Sentence ends = Sentence.ofTerms(ENDS);
        Ghostracer just = Games.type(slow(60), "+".repeat(60));
        ends.due("just the length, with the last of sixty", 6000, just, g -> g.tryOut(0, 0));
        ends.due("one place less", Check.UNSUPPORTED, Games.type(slow(61), "+".repeat(60)),
                g -> g.tryOut(0, 0));
        Ghostracer sum = Games.type(Games.fourTracks(), "+".repeat(60));
        for (int i = 0; i < 12; i++) {
            sum.stretch(0, 30, 9);
        }
        // 4 + 8 and then 9 a tick: 12 + 39 * 9 is 363 behind 41 ticks, 3 beyond.
        ends.due("the sum of twelve stretches", 4067, sum, g -> g.tryOut(0, 0));
        ends.due("kept", 0, sum, g -> g.drive(0, 0, 0, -1));
        ends.due("its ticks", 41, sum, g -> g.ticks(0));
        ends.due("its last place, not taken round the ring", 363, sum,
                g -> g.replay(0, 41, false));
        ends.due("the place before", 354, sum, g -> g.replay(0, 40, false));
    }
}
