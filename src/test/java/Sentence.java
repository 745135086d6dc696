/** A sentence of the document, or a few: each check that is for it tells it, and its promise. */
final class Sentence {
    static final int LEAST = Integer.MIN_VALUE;
    static final int MOST = Integer.MAX_VALUE;

    private final String told;
    private final String exception;

    private Sentence(String section, String exception, String... sentences) {
        StringBuilder told = new StringBuilder(section);
        for (String words : sentences) {
            Document.name(section, words);
            told.append(", \"").append(words).append('"');
        }
        this.told = told.append(": ").toString();
        this.exception = exception;
    }

    /** A call of a game by one number. */
    interface ByNumber {
        Object answer(Ghostracer game, int number);
    }

    static Sentence of(int promise, String... sentences) {
        return new Sentence("Promise " + promise, "", sentences);
    }

    static Sentence ofTerms(String... sentences) {
        return new Sentence("Terms", "", sentences);
    }

    static Sentence ofSection(String section, String... sentences) {
        return new Sentence(section, "", sentences);
    }

    /** A promise's sentence of the form: Throws .. if .. */
    static Sentence thrown(int promise, String exception, String cause) {
        String name = exception.substring("throws.".length());
        return new Sentence("Promise " + promise, exception, "Throws `" + name + "` if " + cause);
    }

    void same(String what, Object want, Object got) {
        Check.same(told + what, want, got);
    }

    void due(String what, Object want, Ghostracer game, Check.Call call) {
        Check.due(told + what, want, game, call);
    }

    /** What the call answers for each number, from 0, on one game. */
    void dueEach(String what, Ghostracer game, ByNumber call, Object... wants) {
        for (int i = 0; i < wants.length; i++) {
            int number = i;
            due(what + " " + i, wants[i], game, g -> call.answer(g, number));
        }
    }

    /** The call throws this sentence's exception, and changes nothing. */
    void refuses(String what, Check.Setup setup, Check.Call call) {
        refusesBy(what, exception, setup, call);
    }

    /** The call throws the exception, and changes nothing. */
    void refusesBy(String what, String want, Check.Setup setup, Check.Call call) {
        Check.refused(told + what, want, setup, call);
    }

    void refusesEach(String what, Check.Setup setup, ByNumber call, int... numbers) {
        for (int number : numbers) {
            refuses(what + " " + number, setup, g -> call.answer(g, number));
        }
    }
}
