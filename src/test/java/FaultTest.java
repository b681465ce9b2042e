/** "An INSTRUCTION with a FAULT does nothing; PC is its place." */
public final class FaultTest {
    private static final Checks CHECKS = new Checks();
    private static final int UNKNOWN = 0777;
    private static final int MOVE = 0200;
    private static final int DIVIDE_BY_E = 0231;

    public static void main(String[] args) {
        leavesPcAtEveryEdge();
        leavesPcBehindASkip();
        leavesPcBehindAJump();
        leavesPcBehindAWrap();
        keepsWhatIsDoneBefore();
        comesBeforeAnyChange();
        canBeMended();
        CHECKS.end();
    }

    /** "PC is its place": the first place, the last one, those beside them. */
    private static void leavesPcAtEveryEdge() {
        int[] places = {0, 1, 15, 16, 4094, 4095};
        for (int place : places) {
            Bench.immediate(CHECKS, UNKNOWN, 5, 0).at(place).faults(1);
            Bench.immediate(CHECKS, MOVE, 5, 4096).at(place).faults(2);
            Bench.immediate(CHECKS, DIVIDE_BY_E, 5, 0).at(place).faults(3);
        }
    }

    private static void stopsAt(String name, Scene scene, int pc, int done) {
        CHECKS.same(name + ": run(9)", scene.play().run(9), 1);
        scene.changes("run(9)", mill -> mill.run(9), Scene.PC, pc,
                Scene.DONE_IN_ALL, 5 + done, Scene.DONE_IN_RUN, done);
    }

    private static Scene at(String name, int first, int op, int y) {
        return Scene.used(CHECKS, name).code(first, op, 0, false, 0, y).go(first);
    }

    private static void leavesPcBehindASkip() {
        Scene scene = at("a skip before it", 100, 0304, 0).code(102, UNKNOWN, 0, false, 0, 0);
        stopsAt("a skip before it", scene, 102, 1);
    }

    private static void leavesPcBehindAJump() {
        Scene scene = at("a jump before it", 100, 0254, 300).code(300, UNKNOWN, 0, false, 0, 0);
        stopsAt("a jump before it", scene, 300, 1);
    }

    private static void leavesPcBehindAWrap() {
        Scene scene = at("4095 before it", 4095, 0300, 0).code(0, UNKNOWN, 0, false, 0, 0);
        stopsAt("4095 before it", scene, 0, 1);
    }

    private static void keepsWhatIsDoneBefore() {
        Scene scene = Scene.used(CHECKS, "a sum before it").put(1, 7).code(100, 0271, 1, false, 0, 5)
                .code(101, 0350, 0, false, 0, 4096).go(100);
        CHECKS.same("a sum before it: run(9)", scene.play().run(9), 2);
        scene.changes("run(9)", mill -> mill.run(9), 1, 12, Scene.PC, 101, Scene.DONE_IN_ALL, 6, Scene.DONE_IN_RUN, 1);
    }

    /** "does nothing": ops of several steps whose later step is the one with the fault. */
    private static void comesBeforeAnyChange() {
        Bench.immediate(CHECKS, 0260, Checks.halves(5, 4095), 2000).faults(2);
        Bench.of(CHECKS, 0261, Checks.halves(5, 4095), 7).faults(2);
        Bench.immediate(CHECKS, 0261, Checks.halves(5, 600), 4096).faults(2);
        Bench.of(CHECKS, 0262, Checks.halves(5, 4096), 7).faults(2);
        Bench.immediate(CHECKS, 0262, Checks.halves(5, 600), 4096).faults(2);
        Bench.immediate(CHECKS, 0263, Checks.halves(5, 4096), 0).faults(2);
        Bench.immediate(CHECKS, 0264, 5, 4096).faults(2);
        Bench.immediate(CHECKS, 0250, 5, 4096).faults(2);
        Bench.immediate(CHECKS, 0354, 5, 4096).faults(2);
        Bench.immediate(CHECKS, 0374, 5, 4096).faults(2);
        Bench.of(CHECKS, 0230, 5, 0).faults(3);
        Bench.of(CHECKS, 0230, Checks.LOWEST, -1).faults(3);
    }

    /** The same object goes on from the place once the word there is another. */
    private static void canBeMended() {
        int[] faulty = {UNKNOWN, MOVE, DIVIDE_BY_E};
        int[] ys = {0, 4096, 0};
        for (int i = 0; i < faulty.length; i++) {
            WordMill mill = at("mended", 100, faulty[i], ys[i]).play();
            CHECKS.same("run(9) with a fault", mill.run(9), i + 1);
            mill.code(100, 0201, 4, false, 0, 44);
            CHECKS.same("run(9) when mended", mill.run(9), -1);
            CHECKS.same("word(4) when mended", mill.word(4), 44);
            CHECKS.same("count(0) when mended", mill.count(0), 102);
            CHECKS.same("count(1) when mended", mill.count(1), 5 + 2);
            CHECKS.same("count(2) when mended", mill.count(2), 2);
        }
    }
}
