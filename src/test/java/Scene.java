import java.util.ArrayList;
import java.util.List;
import java.util.function.Consumer;

/**
 * Calls that bring a new object into a state. They are played on several objects, as no object is promised for more
 * than 512 calls and looking at all words takes 4096.
 */
final class Scene {
    static final int PLACES = 4096;
    /** Where a state holds PC and the two counts, behind the words. */
    static final int PC = PLACES;
    static final int DONE_IN_ALL = PLACES + 1;
    static final int DONE_IN_RUN = PLACES + 2;
    private static final int STATE_SIZE = PLACES + 3;
    private static final int WORDS_OF_ONE_OBJECT = 256;

    private final Checks checks;
    private final String name;
    private final List<Consumer<WordMill>> calls = new ArrayList<>();

    Scene(Checks checks, String name) {
        this.checks = checks;
        this.name = name;
    }

    /** An object in use: no word beside the program's is looked at in vain, and PC and the counts are not 0. */
    static Scene used(Checks checks, String name) {
        Scene scene = new Scene(checks, name);
        for (int register = 0; register < 16; register++) {
            scene.put(register, Checks.halves(0400 + register, 0300 + register));
        }
        int[] others = {16, 499, 501, 599, 601, 999, 1000, 1001, 2000, 4094, 4095};
        for (int place : others) {
            scene.put(place, Checks.halves(0700000 + place, 0600000 + place));
        }
        for (int place = 3000; place < 3008; place++) {
            scene.code(place, 0300, 0, false, 0, 0);
        }
        return scene.go(3000).run(2).run(3);
    }

    Scene put(int place, long w) {
        return call(mill -> mill.put(place, w));
    }

    Scene code(int place, int op, int ac, boolean indirect, int x, int y) {
        return call(mill -> mill.code(place, op, ac, indirect, x, y));
    }

    Scene go(int place) {
        return call(mill -> mill.go(place));
    }

    Scene run(int n) {
        return call(mill -> mill.run(n));
    }

    private Scene call(Consumer<WordMill> call) {
        calls.add(call);
        return this;
    }

    WordMill play() {
        WordMill mill = new WordMill();
        for (Consumer<WordMill> call : calls) {
            call.accept(mill);
        }
        return mill;
    }

    /** All words, PC and the counts. */
    long[] state() {
        return stateAfter(mill -> { });
    }

    private long[] stateAfter(Consumer<WordMill> last) {
        long[] state = new long[STATE_SIZE];
        for (int first = 0; first < PLACES; first += WORDS_OF_ONE_OBJECT) {
            WordMill mill = play();
            last.accept(mill);
            for (int place = first; place < first + WORDS_OF_ONE_OBJECT; place++) {
                state[place] = mill.word(place);
            }
            for (int what = 0; what < 3; what++) {
                state[PLACES + what] = mill.count(what);
            }
        }
        return state;
    }

    /** After the call the state is as before, but for the changes: a place of the state, what it holds, and so on. */
    void changes(String call, Consumer<WordMill> last, long... changed) {
        long[] due = state();
        for (int i = 0; i < changed.length; i += 2) {
            due[(int) changed[i]] = changed[i + 1];
        }
        sameState(call, stateAfter(last), due);
    }

    /** The call throws, all is as before, and the object goes on as if there had been no call. */
    void refuses(String call, Consumer<WordMill> bad) {
        checks.refused(name + ": " + call, () -> bad.accept(play()));
        Consumer<WordMill> caught = mill -> Checks.thrownBy(() -> bad.accept(mill));
        sameState("refused " + call, stateAfter(caught), state());
        Consumer<WordMill> goingOn = mill -> mill.run(4);
        sameState("run(4) behind refused " + call, stateAfter(caught.andThen(goingOn)), stateAfter(goingOn));
    }

    private void sameState(String call, long[] got, long[] due) {
        int different = 0;
        for (int i = 0; i < STATE_SIZE; i++) {
            if (got[i] != due[i]) {
                different++;
                String what = i < PLACES ? "word(" + i + ")" : "count(" + (i - PLACES) + ")";
                System.out.println(name + ": after " + call + " " + what + " is " + got[i] + ", due is " + due[i]);
            }
        }
        checks.same(name + ": what is other than due after " + call, different, 0);
    }
}
