/** The ops 300 .. 377 and 254: comparisons, skips and jumps. */
public final class ConditionsTest {
    private static final Checks CHECKS = new Checks();
    private static final int NEXT = Bench.AT + 1;
    private static final int SKIPPED = Bench.AT + 2;
    private static final int TARGET = 2000;

    /** For each of the eight conditions: is it met below, at and above. */
    private static final boolean[][] MET = {
        {false, false, false},
        {true, false, false},
        {false, true, false},
        {true, true, false},
        {true, true, true},
        {false, true, true},
        {true, false, true},
        {false, false, true},
    };

    public static void main(String[] args) {
        for (int condition = 0; condition < 8; condition++) {
            comparesWithE(condition);
            comparesWithM(condition);
            jumpsByC(condition);
            skipsByM(condition);
            countsAndJumps(condition);
            countsAndSkips(condition);
            faultsAboveTheMemory(condition);
        }
        cutsJumps();
        CHECKS.end();
    }

    private static int side(long a, long b) {
        return Long.compare(a, b) + 1;
    }

    private static int skip(int condition, long a, long b) {
        return MET[condition][side(a, b)] ? SKIPPED : NEXT;
    }

    private static int jump(int condition, long a) {
        return MET[condition][side(a, 0)] ? TARGET : NEXT;
    }

    private static void comparesWithE(int condition) {
        long[] cs = {-(1L << 35), -1, 0, 4, 5, 6, 0x3FFFE, 0x3FFFF, 0x40000, (1L << 35) - 1};
        int[] es = {0, 5, 0x3FFFF};
        for (long c : cs) {
            for (int e : es) {
                Bench.immediate(CHECKS, 0300 + condition, Checks.w(c), e)
                        .goesTo(skip(condition, c, e)).c(Checks.w(c));
            }
        }
    }

    private static void comparesWithM(int condition) {
        long[] numbers = {-(1L << 35), -7, -1, 0, 1, 7, (1L << 35) - 1};
        for (long c : numbers) {
            for (long m : numbers) {
                Bench.of(CHECKS, 0310 + condition, Checks.w(c), Checks.w(m))
                        .goesTo(skip(condition, c, m)).c(Checks.w(c)).m(Checks.w(m));
            }
        }
    }

    private static final long[] ROUND_ZERO = {-(1L << 35), -2, -1, 0, 1, 2, (1L << 35) - 1};

    private static void jumpsByC(int condition) {
        for (long c : ROUND_ZERO) {
            Bench.immediate(CHECKS, 0320 + condition, Checks.w(c), TARGET)
                    .goesTo(jump(condition, c)).c(Checks.w(c));
        }
    }

    private static void skipsByM(int condition) {
        for (long m : ROUND_ZERO) {
            Bench.of(CHECKS, 0330 + condition, 99, Checks.w(m))
                    .goesTo(skip(condition, m, 0)).c(Checks.w(m)).m(Checks.w(m));
            Bench.of(CHECKS, 0330 + condition, 99, Checks.w(m)).put(0, 98)
                    .code(0330 + condition, 0, false, 0, Bench.M_AT)
                    .goesTo(skip(condition, m, 0)).c(99).m(Checks.w(m)).word(0, 98);
        }
    }

    /** What a word is as a number after a change that is cut to 36 bits. */
    private static long changed(long number, int change) {
        return (number + change) << 28 >> 28;
    }

    private static void countsAndJumps(int condition) {
        for (long c : ROUND_ZERO) {
            long up = changed(c, 1);
            Bench.immediate(CHECKS, 0340 + condition, Checks.w(c), TARGET)
                    .goesTo(jump(condition, up)).c(Checks.w(up));
            long down = changed(c, -1);
            Bench.immediate(CHECKS, 0360 + condition, Checks.w(c), TARGET)
                    .goesTo(jump(condition, down)).c(Checks.w(down));
        }
    }

    private static void countsAndSkips(int condition) {
        for (long m : ROUND_ZERO) {
            countsAndSkips(0350 + condition, m, changed(m, 1));
            countsAndSkips(0370 + condition, m, changed(m, -1));
        }
        Bench.of(CHECKS, 0350 + condition, 6, 0).code(0350 + condition, Bench.AC, false, 0, Bench.AC)
                .goesTo(skip(condition, 7, 0)).c(7);
    }

    private static void countsAndSkips(int op, long m, long due) {
        int place = skip(op & 7, due, 0);
        Bench.of(CHECKS, op, 99, Checks.w(m)).goesTo(place).c(Checks.w(due)).m(Checks.w(due));
        Bench.of(CHECKS, op, 99, Checks.w(m)).put(0, 98).code(op, 0, false, 0, Bench.M_AT)
                .goesTo(place).c(99).m(Checks.w(due)).word(0, 98);
    }

    private static void faultsAboveTheMemory(int condition) {
        int[] families = {0310, 0330, 0350, 0370};
        for (int family : families) {
            Bench.immediate(CHECKS, family + condition, 5, 4096).faults(2);
            Bench.immediate(CHECKS, family + condition, 5, -1).faults(2);
        }
    }

    private static void cutsJumps() {
        Bench.immediate(CHECKS, 0254, 5, TARGET).goesTo(TARGET).c(5);
        Bench.immediate(CHECKS, 0254, 5, 4095).goesTo(4095);
        Bench.immediate(CHECKS, 0254, 5, 4096).goesTo(0);
        Bench.immediate(CHECKS, 0254, 5, -1).goesTo(4095);
        Bench.immediate(CHECKS, 0324, 5, 4096 + 7).goesTo(7);
        Bench.immediate(CHECKS, 0344, 5, 4096 + 7).goesTo(7).c(6);
        Bench.immediate(CHECKS, 0364, 5, 4096 + 7).goesTo(7).c(4);
        Bench.immediate(CHECKS, 0320, 5, 4096 + 7).goesTo(NEXT);
        Bench.of(CHECKS, 0344, 5, 0).code(0344, Bench.AC, false, Bench.AC, 10).goesTo(15).c(6);
    }
}
