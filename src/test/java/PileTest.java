/** The ops 260 .. 264. */
public final class PileTest {
    private static final Checks CHECKS = new Checks();
    private static final int AC = Bench.AC;
    private static final int TARGET = 2000;

    public static void main(String[] args) {
        pushesTheNextPlace();
        pushesAWord();
        popsAWord();
        popsToPc();
        leavesTheNextPlace();
        meetsItself();
        CHECKS.end();
    }

    private static long h(long left, long right) {
        return Checks.halves(left, right);
    }

    private static void pushesTheNextPlace() {
        Bench.immediate(CHECKS, 0260, h(5, 600), TARGET).put(601, 9).goesTo(TARGET).c(h(5, 601)).word(601, 101);
        Bench.immediate(CHECKS, 0260, h(5, 600), 4096 + 7).goesTo(7).word(601, 101);
        Bench.immediate(CHECKS, 0260, h(5, 4094), TARGET).goesTo(TARGET).c(h(5, 4095)).word(4095, 101);
        Bench.immediate(CHECKS, 0260, h(5, 4095), TARGET).faults(2);
        Bench.immediate(CHECKS, 0260, h(5, 0777776), TARGET).faults(2);
        Bench.immediate(CHECKS, 0260, h(5, 0777777), TARGET).goesTo(TARGET).c(h(5, 0)).word(0, 101);
        Bench.immediate(CHECKS, 0260, h(0777777, 0777777), TARGET).goesTo(TARGET).c(h(0777777, 0)).word(0, 101);
        Bench end = Bench.immediate(CHECKS, 0260, h(5, 600), TARGET);
        end.mill.put(4095, end.mill.word(Bench.AT));
        end.mill.go(4095);
        end.goesTo(TARGET).word(601, 0);
    }

    private static void pushesAWord() {
        Bench.of(CHECKS, 0261, h(5, 600), 77).put(601, 9).goesOn().c(h(5, 601)).word(601, 77).m(77);
        Bench.of(CHECKS, 0261, h(5, 4094), 77).goesOn().c(h(5, 4095)).word(4095, 77);
        Bench.of(CHECKS, 0261, h(5, 4095), 77).faults(2);
        Bench.of(CHECKS, 0261, h(5, 0777777), 77).goesOn().c(h(5, 0)).word(0, 77);
        Bench.immediate(CHECKS, 0261, h(5, 600), 4096).faults(2);
        Bench.of(CHECKS, 0261, h(5, 600), 77).put(610, 33).code(0261, AC, false, AC, 10)
                .goesOn().c(h(5, 601)).word(601, 33);
    }

    private static void popsAWord() {
        Bench.of(CHECKS, 0262, h(5, 600), 77).put(600, 9).goesOn().c(h(5, 599)).word(600, 9).m(9);
        Bench.of(CHECKS, 0262, h(5, 4095), 77).put(4095, 9).goesOn().c(h(5, 4094)).m(9);
        Bench.of(CHECKS, 0262, h(5, 4096), 77).faults(2);
        Bench.of(CHECKS, 0262, h(5, 0777777), 77).faults(2);
        Bench.of(CHECKS, 0262, h(5, 0), 77).put(0, 9).goesOn().c(h(5, 0777777)).m(9);
        Bench.immediate(CHECKS, 0262, h(5, 600), 4096).faults(2);
    }

    private static void popsToPc() {
        Bench.immediate(CHECKS, 0263, h(5, 600), 0).put(600, TARGET).goesTo(TARGET).c(h(5, 599)).word(600, TARGET);
        Bench.immediate(CHECKS, 0263, h(5, 600), 0).put(600, h(7, 4096 + 8)).goesTo(8).c(h(5, 599));
        Bench.immediate(CHECKS, 0263, h(5, 600), -1).put(600, TARGET).goesTo(TARGET).c(h(5, 599));
        Bench.immediate(CHECKS, 0263, h(5, 4096), 0).faults(2);
        Bench.immediate(CHECKS, 0263, h(5, 0777777), 0).faults(2);
        Bench.immediate(CHECKS, 0263, h(5, 0), 0).put(0, TARGET).goesTo(TARGET).c(h(5, 0777777));
    }

    private static void leavesTheNextPlace() {
        Bench.of(CHECKS, 0264, 5, h(7, 7)).goesTo(Bench.M_AT + 1).c(5).m(101);
        Bench.immediate(CHECKS, 0264, 5, 4095).goesTo(0).word(4095, 101);
        Bench.immediate(CHECKS, 0264, 5, 4096).faults(2);
        Bench end = Bench.of(CHECKS, 0264, 5, 7);
        end.mill.put(4095, end.mill.word(Bench.AT));
        end.mill.go(4095);
        end.goesTo(Bench.M_AT + 1).m(0);
    }

    /** Where C, M and the pile's top are one word, the document's order of the steps decides. */
    private static void meetsItself() {
        Bench.immediate(CHECKS, 0260, h(5, AC - 1), TARGET).goesTo(TARGET).c(101);
        Bench.of(CHECKS, 0261, h(5, AC - 1), 77).goesOn().c(77);
        Bench.of(CHECKS, 0261, h(5, 600), 0).code(0261, AC, false, 0, AC)
                .goesOn().c(h(5, 601)).word(601, h(5, 600));
        Bench.of(CHECKS, 0262, h(5, 600), 0).put(600, h(6, 800)).code(0262, AC, false, 0, AC)
                .goesOn().c(h(6, 799));
        Bench.immediate(CHECKS, 0263, h(5, AC), 0).goesTo(AC).c(h(5, AC - 1));
    }
}
