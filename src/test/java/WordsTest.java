/** The ops that move and reckon: 200 .. 250, 270 .. 275, 400 .. 450, 500 .. 554. */
public final class WordsTest {
    private static final Checks CHECKS = new Checks();
    private static final long LOWEST = Checks.LOWEST;
    private static final long HIGHEST = Checks.HIGHEST;
    private static final long ONES = Checks.WORD_MASK;
    private static final long A = Checks.halves(0123456, 0654321);
    private static final long B = Checks.halves(0707070, 0111222);

    public static void main(String[] args) {
        moves();
        stores();
        multiplies();
        divides();
        shifts();
        adds();
        subtracts();
        joinsBits();
        movesHalves();
        CHECKS.end();
    }

    /** C = something of C and M; M stays. */
    private static void gives(int op, long c, long m, long due) {
        Bench.of(CHECKS, op, c, m).goesOn().c(due).m(m);
    }

    private static void givesOfE(int op, long c, int e, long due) {
        Bench.immediate(CHECKS, op, c, e).goesOn().c(due);
    }

    private static long w(long number) {
        return Checks.w(number);
    }

    private static void moves() {
        gives(0200, 5, A, A);
        gives(0200, 5, 0, 0);
        givesOfE(0201, A, 77, 77);
        givesOfE(0201, A, -1, 0x3FFFF);
        gives(0204, 5, A, Checks.halves(0654321, 0123456));
        gives(0204, 5, Checks.halves(0777777, 1), Checks.halves(1, 0777777));
        gives(0210, 5, 7, w(-7));
        gives(0210, 5, w(-7), 7);
        gives(0210, 5, 0, 0);
        gives(0210, 5, LOWEST, LOWEST);
        gives(0214, 5, 7, 7);
        gives(0214, 5, w(-7), 7);
        gives(0214, 5, w(-1), 1);
        gives(0214, 5, HIGHEST, HIGHEST);
        gives(0214, 5, LOWEST + 1, HIGHEST);
        gives(0214, 5, LOWEST, LOWEST);
    }

    private static void stores() {
        Bench.of(CHECKS, 0202, A, B).goesOn().c(A).m(A);
        Bench.of(CHECKS, 0250, A, B).goesOn().c(B).m(A);
        Bench.of(CHECKS, 0402, A, B).goesOn().c(A).m(0);
        Bench.of(CHECKS, 0250, A, B).code(0250, Bench.AC, false, 0, Bench.AC).goesOn().c(A).m(B);
        Bench.of(CHECKS, 0202, A, B).put(0, 5).code(0202, 0, false, 0, Bench.M_AT).goesOn().m(5);
        int[] ops = {0200, 0202, 0204, 0210, 0214, 0220, 0230, 0250, 0270, 0274, 0402, 0404, 0430, 0434,
            0500, 0504, 0540, 0544, 0550, 0554};
        for (int op : ops) {
            Bench.immediate(CHECKS, op, A, 4096).faults(2);
            Bench.immediate(CHECKS, op, A, -1).faults(2);
        }
    }

    private static void multiplies() {
        gives(0220, 6, 7, 42);
        gives(0220, w(-6), 7, w(-42));
        gives(0220, w(-6), w(-7), 42);
        gives(0220, 1L << 20, 1L << 20, 0);
        gives(0220, (1L << 20) + 1, (1L << 20) + 1, (1L << 21) + 1);
        gives(0220, HIGHEST, HIGHEST, 1);
        gives(0220, HIGHEST, 2, w(-2));
        gives(0220, LOWEST, w(-1), LOWEST);
        gives(0220, LOWEST, LOWEST, 0);
        givesOfE(0221, 6, 7, 42);
        givesOfE(0221, 6, 0, 0);
        givesOfE(0221, w(-1), -1, w(-0x3FFFF));
    }

    private static void dividesTo(long c, long m, long quotient, long rest) {
        Bench.of(CHECKS, 0230, c, m).put(Bench.AC + 1, 99).goesOn().c(w(quotient)).m(m).word(Bench.AC + 1, w(rest));
    }

    private static void divides() {
        dividesTo(17, 5, 3, 2);
        dividesTo(w(-17), 5, -3, -2);
        dividesTo(17, w(-5), -3, 2);
        dividesTo(w(-17), w(-5), 3, -2);
        dividesTo(4, 5, 0, 4);
        dividesTo(0, 5, 0, 0);
        dividesTo(LOWEST, 1, -(1L << 35), 0);
        dividesTo(LOWEST + 1, w(-1), (1L << 35) - 1, 0);
        dividesTo(LOWEST, w(-2), 1L << 34, 0);
        dividesTo(HIGHEST, LOWEST, 0, HIGHEST);
        Bench.of(CHECKS, 0230, 17, 0).put(Bench.AC + 1, 99).faults(3);
        Bench.of(CHECKS, 0230, LOWEST, w(-1)).put(Bench.AC + 1, 99).faults(3);
        Bench.immediate(CHECKS, 0231, 17, 5).goesOn().c(3).word(Bench.AC + 1, 2);
        Bench.immediate(CHECKS, 0231, w(-1), -1).goesOn().c(0).word(Bench.AC + 1, w(-1));
        Bench.immediate(CHECKS, 0231, LOWEST, -1).goesOn().c(w(-131072)).word(Bench.AC + 1, w(-131072));
        Bench.immediate(CHECKS, 0231, 17, 0).put(Bench.AC + 1, 99).faults(3);
        Bench.of(CHECKS, 0230, 0, 5).put(15, 17).put(0, 99).code(0230, 15, false, 0, Bench.M_AT)
                .goesOn().word(15, 3).word(0, 2);
        Bench.of(CHECKS, 0230, 17, 0).put(Bench.AC + 1, 5).code(0230, Bench.AC, false, 0, Bench.AC + 1)
                .goesOn().c(3).word(Bench.AC + 1, 2);
        Bench.of(CHECKS, 0230, 17, 0).code(0230, Bench.AC, false, 0, Bench.AC).goesOn().c(1).word(Bench.AC + 1, 0);
    }

    private static void shifts() {
        givesOfE(0242, A, 0, A);
        givesOfE(0242, 5, 3, 40);
        givesOfE(0242, ONES, 1, ONES - 1);
        givesOfE(0242, ONES, 35, LOWEST);
        givesOfE(0242, ONES, 36, 0);
        givesOfE(0242, ONES, 37, 0);
        givesOfE(0242, ONES, 64, 0);
        givesOfE(0242, ONES, 0x1FFFF, 0);
        givesOfE(0242, ONES, -1, HIGHEST);
        givesOfE(0242, LOWEST, -35, 1);
        givesOfE(0242, ONES, -36, 0);
        givesOfE(0242, ONES, -64, 0);
        givesOfE(0242, ONES, -0x20000, 0);
        givesOfE(0242, 40, -3, 5);
        Bench.of(CHECKS, 0242, 5, 0).put(2, Checks.halves(7, 2)).code(0242, Bench.AC, false, 2, 1).goesOn().c(40);
    }

    private static void adds() {
        gives(0270, 5, 7, 12);
        gives(0270, 5, w(-7), w(-2));
        gives(0270, HIGHEST, 1, LOWEST);
        gives(0270, ONES, 1, 0);
        givesOfE(0271, 5, 7, 12);
        givesOfE(0271, 5, -1, 0x40004);
        givesOfE(0271, ONES, 1, 0);
    }

    private static void subtracts() {
        gives(0274, 5, 7, w(-2));
        gives(0274, 5, w(-7), 12);
        gives(0274, LOWEST, 1, HIGHEST);
        gives(0274, 0, LOWEST, LOWEST);
        givesOfE(0275, 5, 7, w(-2));
        givesOfE(0275, 0, -1, w(-0x3FFFF));
        givesOfE(0275, LOWEST, 1, HIGHEST);
    }

    private static void joinsBits() {
        givesOfE(0400, A, 5, 0);
        givesOfE(0400, A, -1, 0);
        givesOfE(0450, A, 5, A ^ ONES);
        givesOfE(0450, 0, -1, ONES);
        givesOfE(0450, ONES, 0, 0);
        gives(0404, 12, 10, 8);
        gives(0404, ONES, B, B);
        gives(0430, 12, 10, 6);
        gives(0430, ONES, B, B ^ ONES);
        gives(0434, 12, 10, 14);
        gives(0434, LOWEST, 1, LOWEST + 1);
        givesOfE(0405, 12, 10, 8);
        givesOfE(0405, ONES, -1, 0x3FFFF);
        givesOfE(0431, 12, 10, 6);
        givesOfE(0431, ONES, -1, Checks.halves(0777777, 0));
        givesOfE(0435, 12, 10, 14);
        givesOfE(0435, 0, -1, 0x3FFFF);
    }

    private static void movesHalves() {
        gives(0500, A, B, Checks.halves(0707070, 0654321));
        gives(0504, A, B, Checks.halves(0111222, 0654321));
        gives(0540, A, B, Checks.halves(0123456, 0111222));
        gives(0544, A, B, Checks.halves(0123456, 0707070));
        gives(0550, A, B, 0111222);
        gives(0554, A, B, 0707070);
        gives(0500, 0, ONES, Checks.halves(0777777, 0));
        gives(0504, ONES, 0, 0777777);
        gives(0540, ONES, 0, Checks.halves(0777777, 0));
        gives(0544, 0, ONES, 0777777);
        gives(0550, A, ONES, 0777777);
        gives(0554, A, ONES, 0777777);
    }
}
