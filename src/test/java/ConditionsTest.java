/** The ops 300 .. 377: comparisons, skips and jumps. */
public final class ConditionsTest {
    private static final Checks CHECKS = new Checks();
    private static final int AC = Bench.AC;
    private static final int M_AT = Bench.M_AT;
    private static final int NEXT = Bench.AT + 1;
    private static final int SKIPPED = Bench.AT + 2;
    private static final int TARGET = 2000;
    private static final long LOWEST = -(1L << 35);
    private static final long HIGHEST = (1L << 35) - 1;
    private static final long[] ROUND_ZERO = {LOWEST, LOWEST + 1, -2, -1, 0, 1, 2, HIGHEST - 1, HIGHEST};

    /**
     * "never, below, same, not above, always, not below, other, above (in this order)": for each of the eight, is it
     * met below, at and above.
     */
    private static final boolean[][] MET = {
        {false, false, false},
        {true, false, false},
        {false, true, false},
        {true, true, false},
        {true, true, true},
        {false, true, true},
        {true, false, true},
        {false, false, true},
    };

    public static void main(String[] args) {
        for (int condition = 0; condition < 8; condition++) {
            comparesWithE(condition);
            comparesWithM(condition);
            jumpsByC(condition);
            skipsByM(condition);
            countsUpAndJumps(condition);
            countsDownAndJumps(condition);
            countsUpAndSkips(condition);
            countsDownAndSkips(condition);
            setsCIfAcIsNotZero(condition);
            meetsC(condition);
            needsM(condition);
            needsNoM(condition);
        }
        CHECKS.end();
    }

    private static int side(long a, long b) {
        return Long.compare(a, b) + 1;
    }

    private static int skip(int condition, long a, long b) {
        return MET[condition][side(a, b)] ? SKIPPED : NEXT;
    }

    private static int jump(int condition, long a) {
        return MET[condition][side(a, 0)] ? TARGET : NEXT;
    }

    /** "300 .. 307 C with I, as numbers": C has a sign, E has none. */
    private static void comparesWithE(int condition) {
        long[] cs = {LOWEST, -1, 0, 1, 4, 5, 6, 0377777, 0400000, 0400001, 0777776, 0777777, 01000000, HIGHEST};
        int[] es = {0, 5, 0400000, 0777777};
        for (long c : cs) {
            for (int e : es) {
                Bench.immediate(CHECKS, 0300 + condition, c, e).goesTo(skip(condition, c, e));
            }
        }
    }

    /** "310 .. 317 C with M, as numbers": both have a sign. */
    private static void comparesWithM(int condition) {
        long[] numbers = {LOWEST, LOWEST + 1, -7, -1, 0, 1, 7, HIGHEST - 1, HIGHEST};
        for (long c : numbers) {
            for (long m : numbers) {
                Bench.of(CHECKS, 0310 + condition, c, m).goesTo(skip(condition, c, m));
            }
        }
    }

    /** "320 .. 327 to E, if C is so beside 0". */
    private static void jumpsByC(int condition) {
        for (long c : ROUND_ZERO) {
            Bench.immediate(CHECKS, 0320 + condition, c, TARGET).goesTo(jump(condition, c));
        }
    }

    /** "330 .. 337 skip, if M is so beside 0". */
    private static void skipsByM(int condition) {
        for (long m : ROUND_ZERO) {
            Bench.of(CHECKS, 0330 + condition, 99, m).goesTo(skip(condition, m, 0), AC, Checks.w(m));
        }
    }

    /** What a word is as a number after a change that is cut to 36 bits. */
    private static long changed(long number, int change) {
        return (number + change) << 28 >> 28;
    }

    /** "340 .. 347: C = C + 1, then to E as 320": the highest becomes the lowest, -1 becomes 0. */
    private static void countsUpAndJumps(int condition) {
        for (long c : ROUND_ZERO) {
            long due = changed(c, 1);
            Bench.immediate(CHECKS, 0340 + condition, c, TARGET).goesTo(jump(condition, due), AC, Checks.w(due));
        }
    }

    /** "360 .. 367: C - 1, likewise": the lowest becomes the highest, 0 becomes -1. */
    private static void countsDownAndJumps(int condition) {
        for (long c : ROUND_ZERO) {
            long due = changed(c, -1);
            Bench.immediate(CHECKS, 0360 + condition, c, TARGET).goesTo(jump(condition, due), AC, Checks.w(due));
        }
    }

    /** "350 .. 357: M = M + 1, then skip as 330". */
    private static void countsUpAndSkips(int condition) {
        for (long m : ROUND_ZERO) {
            long due = changed(m, 1);
            Bench.of(CHECKS, 0350 + condition, 99, m)
                    .goesTo(skip(condition, due, 0), AC, Checks.w(due), M_AT, Checks.w(due));
            Bench.of(CHECKS, 0350 + condition, 99, m).ac(0).goesTo(skip(condition, due, 0), M_AT, Checks.w(due));
        }
    }

    /** "370 .. 377: M - 1". */
    private static void countsDownAndSkips(int condition) {
        for (long m : ROUND_ZERO) {
            long due = changed(m, -1);
            Bench.of(CHECKS, 0370 + condition, 99, m)
                    .goesTo(skip(condition, due, 0), AC, Checks.w(due), M_AT, Checks.w(due));
            Bench.of(CHECKS, 0370 + condition, 99, m).ac(0).goesTo(skip(condition, due, 0), M_AT, Checks.w(due));
        }
    }

    /** "AC not 0: C = M, too": AC 0 leaves register 0, AC 1 and 15 are set, be the condition met or not. */
    private static void setsCIfAcIsNotZero(int condition) {
        for (int m = -1; m <= 1; m++) {
            int place = skip(condition, m, 0);
            long due = Checks.w(m);
            Bench.of(CHECKS, 0330 + condition, 99, m).ac(0).goesTo(place);
            Bench.of(CHECKS, 0330 + condition, 99, m).ac(1).goesTo(place, 1, due);
            Bench.of(CHECKS, 0330 + condition, 99, m).ac(15).goesTo(place, 15, due);
            Bench.of(CHECKS, 0350 + condition, 99, m - 1).ac(1).goesTo(place, 1, due, M_AT, due);
            Bench.of(CHECKS, 0350 + condition, 99, m - 1).ac(15).goesTo(place, 15, due, M_AT, due);
            Bench.of(CHECKS, 0370 + condition, 99, m + 1).ac(1).goesTo(place, 1, due, M_AT, due);
            Bench.of(CHECKS, 0370 + condition, 99, m + 1).ac(15).goesTo(place, 15, due, M_AT, due);
        }
    }

    /** M or the index may be C itself; C as 0 is a register like others but for the ops that set C. */
    private static void meetsC(int condition) {
        Bench.of(CHECKS, 0310 + condition, 6, 0).y(AC).goesTo(skip(condition, 6, 6));
        Bench.of(CHECKS, 0330 + condition, -6, 0).y(AC).goesTo(skip(condition, -6, 0));
        Bench.of(CHECKS, 0350 + condition, -1, 5).y(AC).goesTo(skip(condition, 0, 0), AC, 0);
        Bench.of(CHECKS, 0370 + condition, 1, 5).y(AC).goesTo(skip(condition, 0, 0), AC, 0);
        Bench.of(CHECKS, 0350 + condition, 5, 5).put(0, 6).ac(0).y(0).goesTo(skip(condition, 7, 0), 0, 7);
        Bench.of(CHECKS, 0340 + condition, 5, 5).put(0, -1).ac(0).y(TARGET).goesTo(jump(condition, 0), 0, 0);
        Bench.of(CHECKS, 0360 + condition, 5, 5).put(0, 1).ac(0).y(TARGET).goesTo(jump(condition, 0), 0, 0);
        Bench.of(CHECKS, 0340 + condition, 5, 5).x(AC).y(TARGET - 5).goesTo(jump(condition, 6), AC, 6);
        Bench.of(CHECKS, 0360 + condition, 5, 5).x(AC).y(TARGET - 5).goesTo(jump(condition, 4), AC, 4);
    }

    /** "A WORD's place above 4095: FAULT 2", of each op that names M, whatever its condition. */
    private static void needsM(int condition) {
        int[] families = {0310, 0330, 0350, 0370};
        for (int family : families) {
            Bench.immediate(CHECKS, family + condition, 5, 4096).faults(2);
            Bench.immediate(CHECKS, family + condition, 5, 4097).faults(2);
            Bench.immediate(CHECKS, family + condition, 5, -1).faults(2);
        }
        Bench.immediate(CHECKS, 0310 + condition, 5, 4095).put(4095, 6).goesTo(skip(condition, 5, 6));
        Bench.immediate(CHECKS, 0330 + condition, 5, 4095).put(4095, 6).goesTo(skip(condition, 6, 0), AC, 6);
        Bench.immediate(CHECKS, 0350 + condition, 5, 4095).put(4095, 6).goesTo(skip(condition, 7, 0), AC, 7, 4095, 7);
        Bench.immediate(CHECKS, 0370 + condition, 5, 4095).put(4095, 6).goesTo(skip(condition, 5, 0), AC, 5, 4095, 5);
    }

    /** E above 4095 is compared as it is, and a jump there is cut to 12 bits. */
    private static void needsNoM(int condition) {
        Bench.immediate(CHECKS, 0300 + condition, 4096, 4096).goesTo(skip(condition, 4096, 4096));
        int place = jump(condition, 6);
        Bench.immediate(CHECKS, 0320 + condition, 6, 4096 + TARGET).goesTo(place);
        Bench.immediate(CHECKS, 0340 + condition, 5, 4096 + TARGET).goesTo(place, AC, 6);
        Bench.immediate(CHECKS, 0360 + condition, 7, 4096 + TARGET).goesTo(place, AC, 6);
    }
}
