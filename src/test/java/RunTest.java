/** Promise 6, and of promises 7 and 8 what a run counts. */
public final class RunTest {
    private static final Checks CHECKS = new Checks();
    private static final int AT = 100;
    private static final int MOST = 20000;
    private static final int END = 0;
    private static final int UNKNOWN = 0777;
    private static final int DIVIDE_BY_E = 0231;

    public static void main(String[] args) {
        doesNInstructions();
        doesNone();
        doesTheMost();
        refusesOtherNumbers();
        endsBehindTheEnd();
        countsTheEnd();
        stopsAtAFault();
        answersTheFault();
        stopsAtTheMost();
        obeysWhatItWrites();
        runsInTheRegisters();
        CHECKS.end();
    }

    /** Some instructions that each add 1 to register 1, which is 0 at first. */
    private static Scene adding(String name, int length) {
        Scene scene = Scene.used(CHECKS, name).put(1, 0);
        for (int i = 0; i < length; i++) {
            scene.code(AT + i, 0271, 1, false, 0, 1);
        }
        return scene.go(AT);
    }

    /** The scene's five instructions are counted before the run. */
    private static void runs(Scene scene, int n, int answer, int pc, int done, long registerOne) {
        CHECKS.same("run(" + n + ")", scene.play().run(n), answer);
        scene.changes("run(" + n + ")", mill -> mill.run(n), 1, registerOne, Scene.PC, pc,
                Scene.DONE_IN_ALL, 5 + done, Scene.DONE_IN_RUN, done);
    }

    /** "n INSTRUCTIONS are done", "0: all n done". */
    private static void doesNInstructions() {
        runs(adding("ten", 10), 1, 0, AT + 1, 1, 1);
        runs(adding("ten", 10), 2, 0, AT + 2, 2, 2);
        runs(adding("ten", 10), 9, 0, AT + 9, 9, 9);
        runs(adding("ten", 10), 10, 0, AT + 10, 10, 10);
        runs(adding("ten, but for its end", 10), 11, -1, AT + 11, 11, 10);
        WordMill mill = adding("by parts", 10).play();
        CHECKS.same("run(3)", mill.run(3), 0);
        CHECKS.same("run(2)", mill.run(2), 0);
        CHECKS.same("count(0) after two runs", mill.count(0), AT + 5);
        CHECKS.same("count(1) after two runs", mill.count(1), 10);
        CHECKS.same("count(2) after two runs", mill.count(2), 2);
        CHECKS.same("word(1) after two runs", mill.word(1), 5);
    }

    /** "n (0 .. 20000)", its lower end: 0 does nothing, be it at an end or at a fault. */
    private static void doesNone() {
        runs(adding("none of ten", 10), 0, 0, AT, 0, 0);
        runs(adding("none at an end", 0), 0, 0, AT, 0, 0);
        runs(adding("none at a fault", 0).code(AT, UNKNOWN, 0, false, 0, 0), 0, 0, AT, 0, 0);
    }

    /** An instruction that adds 1 to register 1 and goes to itself. */
    private static Scene turning(String name) {
        return adding(name, 0).code(AT, 0344, 1, false, 0, AT);
    }

    /** "n (0 .. 20000)", its upper end. */
    private static void doesTheMost() {
        runs(turning("19999"), MOST - 1, 0, AT, MOST - 1, MOST - 1);
        runs(turning("20000"), MOST, 0, AT, MOST, MOST);
    }

    /** "n (0 .. 20000)", "Bad is a number out of range": beyond both ends nothing is done and nothing counted. */
    private static void refusesOtherNumbers() {
        int[] bad = {-1, MOST + 1, -MOST, 65536, Integer.MIN_VALUE, Integer.MAX_VALUE};
        for (int n : bad) {
            adding("bad n", 5).refuses("run(" + n + ")", mill -> mill.run(n));
            adding("bad n at an end", 0).refuses("run(" + n + ")", mill -> mill.run(n));
        }
        Scene.used(CHECKS, "bad n behind a run").refuses("run(-1)", mill -> mill.run(-1));
        Scene.used(CHECKS, "bad n behind a run").refuses("run(20001)", mill -> mill.run(MOST + 1));
    }

    /** "up to one that ends the run (PC is behind it)", "-1: ended": before the end, at it, and no further. */
    private static void endsBehindTheEnd() {
        Scene scene = adding("an end as the fourth", 3).code(AT + 4, 0271, 1, false, 0, 1);
        runs(scene, 3, 0, AT + 3, 3, 3);
        runs(scene, 4, -1, AT + 4, 4, 3);
        runs(scene, 5, -1, AT + 4, 4, 3);
        runs(scene, MOST, -1, AT + 4, 4, 3);
        runs(adding("an end at once", 0), 1, -1, AT + 1, 1, 0);
        runs(adding("an end at 4095", 0).put(4095, 0).go(4095), 2, -1, 0, 1, 0);
        runs(adding("an end at 4094", 0).put(4094, 0).go(4094), 2, -1, 4095, 1, 0);
        Scene goingOn = adding("behind an end", 3).code(AT + 4, 0271, 1, false, 0, 1).run(9);
        CHECKS.same("run(1) behind an end", goingOn.play().run(1), 0);
        goingOn.changes("run(1)", mill -> mill.run(1), 1, 4, Scene.PC, AT + 5,
                Scene.DONE_IN_ALL, 5 + 4 + 1, Scene.DONE_IN_RUN, 1);
    }

    /** "The INSTRUCTION that ends a run is counted, too (count 1 and 2)." */
    private static void countsTheEnd() {
        WordMill mill = new WordMill();
        for (int times = 1; times <= 3; times++) {
            CHECKS.same("run of an end", mill.run(7), -1);
            CHECKS.same("count(1) after " + times + " ends", mill.count(1), times);
            CHECKS.same("count(2) after " + times + " ends", mill.count(2), 1);
        }
        CHECKS.same("run(0) after ends", mill.run(0), 0);
        CHECKS.same("count(1) after run(0)", mill.count(1), 3);
        CHECKS.same("count(2) after run(0)", mill.count(2), 0);
    }

    /** "or has a FAULT": those before it are done, it is not and is not counted. */
    private static void stopsAtAFault() {
        Scene scene = adding("a fault as the fourth", 3).code(AT + 3, UNKNOWN, 1, false, 0, 0);
        runs(scene, 3, 0, AT + 3, 3, 3);
        runs(scene, 4, 1, AT + 3, 3, 3);
        runs(scene, 5, 1, AT + 3, 3, 3);
        runs(scene, MOST, 1, AT + 3, 3, 3);
        WordMill mill = scene.play();
        mill.run(9);
        CHECKS.same("run(9) at the fault", mill.run(9), 1);
        CHECKS.same("count(2) at the fault", mill.count(2), 0);
        CHECKS.same("count(1) at the fault", mill.count(1), 8);
        mill.code(AT + 3, 0271, 1, false, 0, 1);
        CHECKS.same("run(1) of the mended word", mill.run(1), 0);
        CHECKS.same("count(0) behind the mended word", mill.count(0), AT + 4);
        CHECKS.same("count(1) behind the mended word", mill.count(1), 9);
        CHECKS.same("count(2) behind the mended word", mill.count(2), 1);
    }

    /** "Answers 0, -1, or the FAULT": each of the three, behind instructions that are done. */
    private static void answersTheFault() {
        runs(adding("fault 1", 2).code(AT + 2, UNKNOWN, 1, false, 0, 0), 9, 1, AT + 2, 2, 2);
        runs(adding("fault 2", 2).code(AT + 2, 0200, 1, false, 0, 4096), 9, 2, AT + 2, 2, 2);
        runs(adding("fault 3", 2).code(AT + 2, DIVIDE_BY_E, 1, false, 0, 0), 9, 3, AT + 2, 2, 2);
        runs(adding("end", 2).code(AT + 2, END, 1, false, 0, 0), 9, -1, AT + 3, 3, 2);
    }

    /** An end or a fault behind so many instructions that it is the 20000th, or one too many. */
    private static void stopsAtTheMost() {
        runs(fallingThrough(MOST - 1, END), MOST, -1, AT + 2, MOST, 0);
        runs(fallingThrough(MOST, END), MOST, 0, AT + 1, MOST, 0);
        runs(fallingThrough(MOST - 1, UNKNOWN), MOST, 1, AT + 1, MOST - 1, 0);
        runs(fallingThrough(MOST, UNKNOWN), MOST, 0, AT + 1, MOST, 0);
    }

    /** Register 1 is counted down to 0 at one place; then comes the last op. */
    private static Scene fallingThrough(int turns, int lastOp) {
        return adding("turning " + turns + " times", 0).put(1, turns).code(AT, 0367, 1, false, 0, AT)
                .code(AT + 1, lastOp, 0, false, 0, 0);
    }

    private static void obeysWhatItWrites() {
        WordMill mill = new WordMill();
        mill.code(AT, 0202, 3, false, 0, AT + 1);
        mill.put(3, mill.code(50, 0201, 5, false, 0, 42));
        mill.go(AT);
        CHECKS.same("run of a written word", mill.run(9), -1);
        CHECKS.same("word(5)", mill.word(5), 42);
    }

    /** "REGISTERS are WORDS 0 .. 15": the second instruction is what the first has put into register 1. */
    private static void runsInTheRegisters() {
        WordMill mill = new WordMill();
        mill.code(0, 0201, 1, false, 0, 7);
        mill.code(1, UNKNOWN, 0, false, 0, 0);
        CHECKS.same("run in the registers", mill.run(9), -1);
        CHECKS.same("count(0)", mill.count(0), 2);
        CHECKS.same("count(1)", mill.count(1), 2);
        CHECKS.same("word(1)", mill.word(1), 7);
    }
}
