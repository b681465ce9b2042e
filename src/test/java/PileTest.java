/** The ops 260 .. 264. */
public final class PileTest {
    private static final Checks CHECKS = new Checks();
    private static final int AC = Bench.AC;
    private static final int M_AT = Bench.M_AT;
    private static final int TARGET = 2000;

    public static void main(String[] args) {
        pushesTheNextPlace();
        pushesAWord();
        cutsTheRaisedHalf();
        needsAPlaceToPush();
        popsAWord();
        popsToPc();
        cutsTheLoweredHalf();
        needsAPlaceToPop();
        leavesTheNextPlace();
        needsM();
        needsNoM();
        meetsItself();
        CHECKS.end();
    }

    private static long h(long left, long right) {
        return Checks.halves(left, right);
    }

    private static void pushesTheNextPlace() {
        Bench.immediate(CHECKS, 0260, h(5, 600), TARGET).goesTo(TARGET, AC, h(5, 601), 601, 101);
        Bench.immediate(CHECKS, 0260, h(0, 0), TARGET).goesTo(TARGET, AC, h(0, 1), 1, 101);
        Bench.immediate(CHECKS, 0260, h(5, 600), 5).x(AC).goesTo(605, AC, h(5, 601), 601, 101);
        Bench.immediate(CHECKS, 0260, h(5, 600), TARGET).put(15, 700).ac(15).goesTo(TARGET, 15, 701, 701, 101);
        Bench.immediate(CHECKS, 0260, h(5, 600), TARGET).put(0, 700).ac(0).goesTo(TARGET, 0, 701, 701, 101);
    }

    private static void pushesAWord() {
        Bench.of(CHECKS, 0261, h(5, 600), h(7, 8)).goesOn(AC, h(5, 601), 601, h(7, 8));
        Bench.of(CHECKS, 0261, h(0, 0), 77).goesOn(AC, h(0, 1), 1, 77);
        Bench.of(CHECKS, 0261, h(5, 600), 77).put(610, 33).x(AC).y(10).goesOn(AC, h(5, 601), 601, 33);
    }

    /** "C's right half + 1 (cut to 18 bits; its left half stays)". */
    private static void cutsTheRaisedHalf() {
        long[] lefts = {0, 5, 0777777};
        for (long left : lefts) {
            Bench.immediate(CHECKS, 0260, h(left, 0777776), TARGET).faults(2);
            Bench.immediate(CHECKS, 0260, h(left, 0777777), TARGET).goesTo(TARGET, AC, h(left, 0), 0, 101);
            Bench.immediate(CHECKS, 0260, h(left, 0), TARGET).goesTo(TARGET, AC, h(left, 1), 1, 101);
            Bench.of(CHECKS, 0261, h(left, 0777776), 77).faults(2);
            Bench.of(CHECKS, 0261, h(left, 0777777), 77).goesOn(AC, h(left, 0), 0, 77);
            Bench.of(CHECKS, 0261, h(left, 0), 77).goesOn(AC, h(left, 1), 1, 77);
        }
    }

    /** "A WORD's place above 4095: FAULT 2", of the raised half. */
    private static void needsAPlaceToPush() {
        Bench.immediate(CHECKS, 0260, h(5, 4093), TARGET).goesTo(TARGET, AC, h(5, 4094), 4094, 101);
        Bench.immediate(CHECKS, 0260, h(5, 4094), TARGET).goesTo(TARGET, AC, h(5, 4095), 4095, 101);
        Bench.immediate(CHECKS, 0260, h(5, 4095), TARGET).faults(2);
        Bench.immediate(CHECKS, 0260, h(5, 4096), TARGET).faults(2);
        Bench.of(CHECKS, 0261, h(5, 4093), 77).goesOn(AC, h(5, 4094), 4094, 77);
        Bench.of(CHECKS, 0261, h(5, 4094), 77).goesOn(AC, h(5, 4095), 4095, 77);
        Bench.of(CHECKS, 0261, h(5, 4095), 77).faults(2);
        Bench.of(CHECKS, 0261, h(5, 4096), 77).faults(2);
    }

    private static void popsAWord() {
        Bench.of(CHECKS, 0262, h(5, 600), 77).put(600, h(7, 9)).goesOn(AC, h(5, 599), M_AT, h(7, 9));
        Bench.of(CHECKS, 0262, h(5, 600), 77).put(600, 9).x(AC).y(10).goesOn(AC, h(5, 599), 610, 9);
        Bench.of(CHECKS, 0262, h(5, 600), 77).put(600, 9).y(600).goesOn(AC, h(5, 599));
    }

    private static void popsToPc() {
        Bench.immediate(CHECKS, 0263, h(5, 600), 0).put(600, TARGET).goesTo(TARGET, AC, h(5, 599));
        Bench.immediate(CHECKS, 0263, h(5, 600), 0).put(600, h(0777777, TARGET)).goesTo(TARGET, AC, h(5, 599));
        Bench.immediate(CHECKS, 0263, h(5, 600), 7).put(600, TARGET).goesTo(TARGET, AC, h(5, 599));
    }

    /** "then that half - 1", "then - 1": of 0 it is the highest half; the left half stays. */
    private static void cutsTheLoweredHalf() {
        long[] lefts = {0, 5, 0777777};
        for (long left : lefts) {
            Bench.of(CHECKS, 0262, h(left, 1), 77).put(1, 9).goesOn(AC, h(left, 0), M_AT, 9);
            Bench.of(CHECKS, 0262, h(left, 0), 77).put(0, 9).goesOn(AC, h(left, 0777777), M_AT, 9);
            Bench.of(CHECKS, 0262, h(left, 0777777), 77).faults(2);
            Bench.immediate(CHECKS, 0263, h(left, 1), 0).put(1, 9).goesTo(9, AC, h(left, 0));
            Bench.immediate(CHECKS, 0263, h(left, 0), 0).put(0, 9).goesTo(9, AC, h(left, 0777777));
            Bench.immediate(CHECKS, 0263, h(left, 0777777), 0).faults(2);
        }
    }

    /** "A WORD's place above 4095: FAULT 2", of the half before it is lowered. */
    private static void needsAPlaceToPop() {
        Bench.of(CHECKS, 0262, h(5, 4094), 77).put(4094, 9).goesOn(AC, h(5, 4093), M_AT, 9);
        Bench.of(CHECKS, 0262, h(5, 4095), 77).put(4095, 9).goesOn(AC, h(5, 4094), M_AT, 9);
        Bench.of(CHECKS, 0262, h(5, 4096), 77).faults(2);
        Bench.of(CHECKS, 0262, h(5, 4097), 77).faults(2);
        Bench.immediate(CHECKS, 0263, h(5, 4094), 0).put(4094, 9).goesTo(9, AC, h(5, 4093));
        Bench.immediate(CHECKS, 0263, h(5, 4095), 0).put(4095, 9).goesTo(9, AC, h(5, 4094));
        Bench.immediate(CHECKS, 0263, h(5, 4096), 0).faults(2);
        Bench.immediate(CHECKS, 0263, h(5, 4097), 0).faults(2);
    }

    /** "264 M is the next INSTRUCTION's place, to E + 1": M's left half is no exception. */
    private static void leavesTheNextPlace() {
        Bench.of(CHECKS, 0264, 5, h(7, 7)).goesTo(M_AT + 1, M_AT, 101);
        Bench.of(CHECKS, 0264, 5, h(7, 7)).y(0).goesTo(1, 0, 101);
        Bench.of(CHECKS, 0264, 5, h(7, 7)).y(AC).goesTo(AC + 1, AC, 101);
        Bench.of(CHECKS, 0264, 5, h(7, 7)).y(Bench.AT).goesTo(Bench.AT + 1, Bench.AT, 101);
    }

    /** "A WORD's place above 4095: FAULT 2", of M. */
    private static void needsM() {
        int[] ops = {0261, 0262, 0264};
        for (int op : ops) {
            Bench.immediate(CHECKS, op, h(5, 600), 4096).faults(2);
            Bench.immediate(CHECKS, op, h(5, 600), 4097).faults(2);
            Bench.immediate(CHECKS, op, h(5, 600), -1).faults(2);
        }
        Bench.immediate(CHECKS, 0261, h(5, 600), 4095).put(4095, 9).goesOn(AC, h(5, 601), 601, 9);
        Bench.immediate(CHECKS, 0262, h(5, 600), 4095).put(600, 9).goesOn(AC, h(5, 599), 4095, 9);
        Bench.immediate(CHECKS, 0264, 5, 4094).goesTo(4095, 4094, 101);
        Bench.immediate(CHECKS, 0264, 5, 4095).goesTo(0, 4095, 101);
    }

    /** 260 goes to E, and 263 has no use for E: neither needs a word there. */
    private static void needsNoM() {
        Bench.immediate(CHECKS, 0260, h(5, 600), 4096 + 7).goesTo(7, AC, h(5, 601), 601, 101);
        Bench.immediate(CHECKS, 0263, h(5, 600), 4096).put(600, TARGET).goesTo(TARGET, AC, h(5, 599));
        Bench.immediate(CHECKS, 0263, h(5, 600), -1).put(600, TARGET).goesTo(TARGET, AC, h(5, 599));
    }

    /** Where C, M and the pile's top are one word: README.md says how the document is read there. */
    private static void meetsItself() {
        Bench.immediate(CHECKS, 0260, h(5, AC - 1), TARGET).goesTo(TARGET, AC, 101);
        Bench.of(CHECKS, 0261, h(5, AC - 1), 77).goesOn(AC, 77);
        Bench.of(CHECKS, 0261, h(5, 600), 0).y(AC).goesOn(AC, h(5, 601), 601, h(5, 600));
        Bench.of(CHECKS, 0262, h(5, 600), 0).put(600, h(6, 800)).y(AC).goesOn(AC, h(6, 799));
        Bench.immediate(CHECKS, 0263, h(5, AC), 0).goesTo(AC, AC, h(5, AC - 1));
        Bench.of(CHECKS, 0262, h(5, AC), 77).goesOn(AC, h(5, AC - 1), M_AT, h(5, AC));
    }
}
