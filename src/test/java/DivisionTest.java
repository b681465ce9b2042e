/** The ops 230 and 231. */
public final class DivisionTest {
    private static final Checks CHECKS = new Checks();
    private static final long LOWEST = Checks.LOWEST;
    private static final long HIGHEST = Checks.HIGHEST;
    private static final int AC = Bench.AC;
    private static final int REST = Bench.AC + 1;

    public static void main(String[] args) {
        cutsTowardsZero();
        keepsTheRestBehindC();
        faultsByZero();
        faultsIfTheQuotientIsNoNumber();
        dividesByEWithoutSign();
        dividesByItsOwnWords();
        needsM();
        CHECKS.end();
    }

    private static long w(long number) {
        return Checks.w(number);
    }

    private static void divides(long c, long m, long quotient, long rest) {
        Bench.of(CHECKS, 0230, w(c), w(m)).goesOn(AC, w(quotient), REST, w(rest));
    }

    private static void dividesByE(long c, int e, long quotient, long rest) {
        Bench.immediate(CHECKS, 0231, w(c), e).goesOn(AC, w(quotient), REST, w(rest));
    }

    /** "quotient (cut towards 0)". */
    private static void cutsTowardsZero() {
        divides(17, 5, 3, 2);
        divides(-17, 5, -3, -2);
        divides(17, -5, -3, 2);
        divides(-17, -5, 3, -2);
        divides(14, 5, 2, 4);
        divides(15, 5, 3, 0);
        divides(16, 5, 3, 1);
        divides(-14, 5, -2, -4);
        divides(-15, 5, -3, 0);
        divides(-16, 5, -3, -1);
        divides(4, 5, 0, 4);
        divides(-4, 5, 0, -4);
        divides(0, 5, 0, 0);
        divides(0, -5, 0, 0);
    }

    /** "REGISTER AC + 1 (15: 0) the rest". */
    private static void keepsTheRestBehindC() {
        for (int register = 0; register < 16; register++) {
            int behind = register == 15 ? 0 : register + 1;
            Bench.named(CHECKS, "AC " + register, 0230).put(register, 17).put(Bench.M_AT, 5).ac(register)
                    .goesOn(register, 3, behind, 2);
            Bench.named(CHECKS, "AC " + register, 0231).put(register, 17).ac(register).y(5)
                    .goesOn(register, 3, behind, 2);
        }
    }

    /** "by 0: FAULT 3", and by the numbers beside 0. */
    private static void faultsByZero() {
        divides(17, 1, 17, 0);
        divides(17, -1, -17, 0);
        Bench.of(CHECKS, 0230, 17, 0).faults(3);
        Bench.of(CHECKS, 0230, 0, 0).faults(3);
        Bench.of(CHECKS, 0230, LOWEST, 0).faults(3);
        Bench.named(CHECKS, "by 0, AC 15", 0230).put(15, 17).put(Bench.M_AT, 0).ac(15).faults(3);
        dividesByE(17, 1, 17, 0);
        Bench.immediate(CHECKS, 0231, 17, 0).faults(3);
        Bench.immediate(CHECKS, 0231, 0, 0).faults(3);
        Bench.immediate(CHECKS, 0231, 17, 01000000).faults(3);
    }

    /** "or the quotient is no number: FAULT 3": only the lowest by -1 is so. */
    private static void faultsIfTheQuotientIsNoNumber() {
        Bench.of(CHECKS, 0230, LOWEST, w(-1)).faults(3);
        divides(LOWEST + 1, -1, HIGHEST, 0);
        divides(HIGHEST, -1, -HIGHEST, 0);
        divides(LOWEST, -2, 1L << 34, 0);
        divides(LOWEST, 1, LOWEST, 0);
        divides(LOWEST, 2, -(1L << 34), 0);
        divides(LOWEST, LOWEST, 1, 0);
        divides(LOWEST, HIGHEST, -1, -1);
        divides(HIGHEST, LOWEST, 0, HIGHEST);
        divides(-1, LOWEST, 0, -1);
        divides(-1, -1, 1, 0);
    }

    private static void dividesByEWithoutSign() {
        dividesByE(17, 5, 3, 2);
        dividesByE(-17, 5, -3, -2);
        dividesByE(-1, -1, 0, -1);
        dividesByE(LOWEST, -1, -131072, -131072);
        dividesByE(0777776, 0777777, 0, 0777776);
        dividesByE(0777777, 0777777, 1, 0);
        dividesByE(01000000, 0777777, 1, 1);
        dividesByE(8192, 4096, 2, 0);
    }

    private static void dividesByItsOwnWords() {
        Bench.named(CHECKS, "by C", 0230).put(AC, 17).y(AC).goesOn(AC, 1, REST, 0);
        Bench.named(CHECKS, "by the word behind C", 0230).put(AC, 17).put(REST, 5).y(REST).goesOn(AC, 3, REST, 2);
        Bench.named(CHECKS, "by C that is 0", 0230).put(AC, 0).y(AC).faults(3);
    }

    /** "A WORD's place above 4095: FAULT 2." */
    private static void needsM() {
        Bench.immediate(CHECKS, 0230, 17, 4095).put(4095, 5).goesOn(AC, 3, REST, 2);
        Bench.immediate(CHECKS, 0230, 17, 4096).faults(2);
        Bench.immediate(CHECKS, 0230, 17, -1).faults(2);
    }
}
