import java.util.List;

/** Compares answers with those that are due; a test's main ends with end(). */
final class Check {
    static final String INDEX = "throws.IndexOutOfBoundsException";
    static final String ARGUMENT = "throws.IllegalArgumentException";
    static final String STATE = "throws.IllegalStateException";
    static final String UNSUPPORTED = "throws.UnsupportedOperationException";
    static final String NO_ELEMENT = "throws.NoSuchElementException";

    private static int held = 0;
    private static int broken = 0;

    private Check() {
    }

    /** A call of a game, or a few, with the answer of the last. */
    interface Call {
        Object answer(Ghostracer game);
    }

    /** Makes the same game each time. */
    interface Setup {
        Ghostracer make();
    }

    /** Some checks of a test. */
    interface Part {
        void check();
    }

    /** Makes each part's checks; one whose game can't be made is told, and the others go on. */
    static void parts(Part... parts) {
        for (Part part : parts) {
            try {
                part.check();
            } catch (RuntimeException e) {
                broken++;
                System.out.println("a part broke off: " + e);
                for (StackTraceElement at : e.getStackTrace()) {
                    System.out.println("    at " + at);
                }
            }
        }
    }

    static String answerOf(Ghostracer game, Call call) {
        try {
            return String.valueOf(call.answer(game));
        } catch (RuntimeException e) {
            return "throws." + e.getClass().getSimpleName();
        }
    }

    static void same(String what, Object want, Object got) {
        if (String.valueOf(want).equals(String.valueOf(got))) {
            held++;
        } else {
            broken++;
            System.out.println(what + ": answered " + got + ", due is " + want);
        }
    }

    static void due(String what, Object want, Ghostracer game, Call call) {
        same(what, want, answerOf(game, call));
    }

    /** The call throws, and the game tells the same afterwards as one that was spared the call. */
    static void refused(String what, String want, Setup setup, Call call) {
        due(what, want, setup.make(), call);
        unchanged(what, setup, call);
    }

    /** The game tells the same behind the call as one that was spared it. */
    static void unchanged(String what, Setup setup, Call call) {
        List<Call> tellings = Tell.all();
        for (int i = 0; i < tellings.size(); i++) {
            Ghostracer called = setup.make();
            answerOf(called, call);
            String before = answerOf(setup.make(), tellings.get(i));
            String after = answerOf(called, tellings.get(i));
            same(what + " changes nothing, telling " + i, before, after);
        }
    }

    static void end(String test) {
        System.out.println(test + ": " + held + " checks hold, " + broken + " are broken");
        if (broken != 0 || held == 0) {
            System.exit(1);
        }
    }
}
