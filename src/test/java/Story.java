import java.util.function.Consumer;

/** A run of calls on one object: every answer is compared with the one that is due. */
final class Story {
    private static final int MOST_CALLS = 512;

    private final Checks checks;
    private final String name;
    private final WordMill mill = new WordMill();
    private int calls = 0;

    Story(Checks checks, String name) {
        this.checks = checks;
        this.name = name;
    }

    /** Nothing is promised of an object's 513th call, so a story that comes so far would test nothing. */
    private String call(String text) {
        calls++;
        if (calls > MOST_CALLS) {
            throw new IllegalStateException(name + " has too many calls");
        }
        return name + ", call " + calls + ": " + text;
    }

    int calls() {
        return calls;
    }

    Story put(int place, long w) {
        call("put");
        mill.put(place, w);
        return this;
    }

    Story word(int place, long due) {
        checks.same(call("word(" + place + ")"), mill.word(place), due);
        return this;
    }

    /** The instruction without I and X. */
    Story code(int place, int op, int ac, int y) {
        return code(place, op, ac, false, 0, y);
    }

    Story code(int place, int op, int ac, boolean indirect, int x, int y) {
        call("code");
        mill.code(place, op, ac, indirect, x, y);
        return this;
    }

    Story codeAnswers(int place, int op, int ac, boolean indirect, int x, int y, long due) {
        checks.same(call("code at " + place), mill.code(place, op, ac, indirect, x, y), due);
        return this;
    }

    Story go(int place) {
        call("go");
        mill.go(place);
        return this;
    }

    Story run(int n, int due) {
        checks.same(call("run(" + n + ")"), mill.run(n), due);
        return this;
    }

    Story count(int what, int due) {
        checks.same(call("count(" + what + ")"), mill.count(what), due);
        return this;
    }

    Story counts(int pc, int all, int latest) {
        return count(0, pc).count(1, all).count(2, latest);
    }

    Story refused(String bad, Consumer<WordMill> asked) {
        checks.refused(call(bad), () -> asked.accept(mill));
        return this;
    }
}
