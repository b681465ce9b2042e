import java.util.ArrayList;
import java.util.List;
import java.util.function.Consumer;

/**
 * One instruction in an object that is in use: at place 100, on register 3 and the word at 1000 unless said otherwise.
 * Whatever the instruction is due to do, all words that it is not said to change are looked at, too.
 */
final class Bench {
    static final int AT = 100;
    static final int AC = 3;
    static final int M_AT = 1000;
    private static final int DONE_BEFORE = 5;

    private final Checks checks;
    private final String name;
    private final int op;
    private final List<Consumer<Scene>> prepared = new ArrayList<>();
    private int at = AT;
    private int ac = AC;
    private boolean indirect = false;
    private int x = 0;
    private int y = M_AT;

    private Bench(Checks checks, String name, int op) {
        this.checks = checks;
        this.name = "op " + Integer.toOctalString(op) + ", " + name;
        this.op = op;
    }

    static Bench named(Checks checks, String name, int op) {
        return new Bench(checks, name, op);
    }

    /** C and M are these. */
    static Bench of(Checks checks, int op, long c, long m) {
        return new Bench(checks, "c=" + c + " m=" + m, op).put(AC, c).put(M_AT, m);
    }

    /** C and E are these. */
    static Bench immediate(Checks checks, int op, long c, int e) {
        return new Bench(checks, "c=" + c + " e=" + e, op).put(AC, c).y(e);
    }

    Bench put(int place, long w) {
        prepared.add(scene -> scene.put(place, w));
        return this;
    }

    /** A word with parts, as an indirection reads it. */
    Bench parts(int place, boolean itsIndirect, int itsX, int itsY) {
        prepared.add(scene -> scene.code(place, 0777, 15, itsIndirect, itsX, itsY));
        return this;
    }

    Bench at(int place) {
        at = place;
        return this;
    }

    Bench ac(int register) {
        ac = register;
        return this;
    }

    Bench indirect() {
        indirect = true;
        return this;
    }

    Bench x(int register) {
        x = register;
        return this;
    }

    Bench y(int number) {
        y = number;
        return this;
    }

    private Scene scene() {
        Scene scene = Scene.used(checks, name);
        for (Consumer<Scene> each : prepared) {
            each.accept(scene);
        }
        return scene.code(at, op, ac, indirect, x, y).go(at);
    }

    /** The instruction is done, PC goes to a place, and these words are so: a place, its word, and so on. */
    void goesTo(int place, long... changed) {
        answersOnce(0, place, changed);
    }

    void goesOn(long... changed) {
        goesTo(at + 1, changed);
    }

    /** The run ends behind the instruction, which does nothing else. */
    void ends() {
        answersOnce(-1, at + 1);
    }

    private void answersOnce(int answer, int place, long... changed) {
        Scene scene = scene();
        checks.same(name + ": run(1)", scene.play().run(1), answer);
        long[] all = new long[changed.length + 6];
        System.arraycopy(changed, 0, all, 6, changed.length);
        all[0] = Scene.PC;
        all[1] = place;
        all[2] = Scene.DONE_IN_ALL;
        all[3] = DONE_BEFORE + 1;
        all[4] = Scene.DONE_IN_RUN;
        all[5] = 1;
        scene.changes("run(1)", mill -> mill.run(1), all);
    }

    /** The instruction does nothing, PC is its place, it is not counted, and it has the same fault when run again. */
    void faults(int fault) {
        Scene scene = scene();
        WordMill mill = scene.play();
        checks.same(name + ": run(1)", mill.run(1), fault);
        checks.same(name + ": run(9) again", mill.run(9), fault);
        scene.changes("run(1)", each -> each.run(1), Scene.DONE_IN_RUN, 0);
    }
}
