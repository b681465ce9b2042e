/** Promise 1. */
public final class NewObjectTest {
    private static final Checks CHECKS = new Checks();

    public static void main(String[] args) {
        allWordsAreZero();
        pcIsZero();
        nothingIsDone();
        objectsAreApart();
        CHECKS.end();
    }

    private static Scene fresh() {
        return new Scene(CHECKS, "new");
    }

    /** "MEMORY: 4096 WORDS, 0 at first", "All WORDS are 0": 0 and 4095 are words, -1 and 4096 are none. */
    private static void allWordsAreZero() {
        long[] state = fresh().state();
        for (int place = 0; place < Scene.PLACES; place++) {
            CHECKS.same("new: word(" + place + ")", state[place], 0);
        }
        fresh().refuses("word(-1)", mill -> mill.word(-1));
        fresh().refuses("word(4096)", mill -> mill.word(4096));
    }

    /** "PC is 0": the first instruction done is the one at 0, neither the one at 1 nor the one at 4095. */
    private static void pcIsZero() {
        CHECKS.same("new: count(0)", fresh().play().count(0), 0);
        Scene scene = fresh().code(4095, 0201, 3, false, 0, 40).code(0, 0201, 3, false, 0, 41)
                .code(1, 0201, 3, false, 0, 42);
        scene.changes("run(1)", mill -> mill.run(1), 3, 41, Scene.PC, 1, Scene.DONE_IN_ALL, 1, Scene.DONE_IN_RUN, 1);
    }

    private static void nothingIsDone() {
        WordMill mill = new WordMill();
        CHECKS.same("new: count(1)", mill.count(1), 0);
        CHECKS.same("new: count(2)", mill.count(2), 0);
        CHECKS.same("new: run(1) meets a 0", mill.run(1), -1);
    }

    private static void objectsAreApart() {
        WordMill used = new WordMill();
        used.put(5, 7);
        used.go(9);
        used.run(1);
        WordMill mill = new WordMill();
        CHECKS.same("another: word(5)", mill.word(5), 0);
        CHECKS.same("another: count(0)", mill.count(0), 0);
        CHECKS.same("another: count(1)", mill.count(1), 0);
        mill.put(5, 8);
        mill.go(11);
        CHECKS.same("the used one: word(5)", used.word(5), 7);
        CHECKS.same("the used one: count(0)", used.count(0), 10);
    }
}
