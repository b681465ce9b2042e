/** The op 242. */
public final class ShiftTest {
    private static final Checks CHECKS = new Checks();
    private static final long ONES = Checks.WORD_MASK;
    private static final long A = Checks.halves(0523456, 0654325);

    public static void main(String[] args) {
        shiftsLeft();
        shiftsRight();
        givesZeroFrom36();
        takesTheSignOf18Bits();
        takesTheIndex();
        CHECKS.end();
    }

    private static void gives(long c, int e, long due) {
        Bench.immediate(CHECKS, 0242, c, e).goesOn(Bench.AC, due);
    }

    /** "left, 0 comes in", "cut to 36 bits": every distance up to 35. */
    private static void shiftsLeft() {
        for (int distance = 0; distance < 36; distance++) {
            gives(ONES, distance, (ONES << distance) & ONES);
            gives(A, distance, (A << distance) & ONES);
        }
        gives(5, 3, 40);
    }

    /** "below 0 right, 0 comes in": a word with its highest bit set has it no more. */
    private static void shiftsRight() {
        for (int distance = 1; distance < 36; distance++) {
            gives(ONES, -distance, ONES >> distance);
            gives(A, -distance, A >> distance);
        }
        gives(40, -3, 5);
        gives(Checks.LOWEST, -35, 1);
    }

    /** "by 36 and more: 0", to both sides. */
    private static void givesZeroFrom36() {
        int[] far = {36, 37, 63, 64, 65, 99, 100, 128, 4096, 65536, 0377776, 0377777};
        for (int distance : far) {
            gives(ONES, distance, 0);
            gives(ONES, -distance, 0);
        }
        gives(ONES, 35, Checks.LOWEST);
        gives(ONES, -35, 1);
    }

    /** "its lowest 18 bits with a sign": 377777 is far to the left, 400000 far to the right, 777777 is -1. */
    private static void takesTheSignOf18Bits() {
        gives(A, 0, A);
        gives(ONES, 0377777, 0);
        gives(ONES, 0400000, 0);
        gives(ONES, 0400001, 0);
        gives(ONES, 0777777, Checks.HIGHEST);
        gives(ONES, 0777776, Checks.HIGHEST >> 1);
        gives(ONES, 0777735, 1);
        gives(ONES, 0777734, 0);
        gives(ONES, 0777733, 0);
        gives(A, 01000000, A);
        gives(ONES, 01000001, ONES - 1);
    }

    private static void takesTheIndex() {
        Bench.immediate(CHECKS, 0242, 5, 1).put(2, Checks.halves(7, 2)).x(2).goesOn(Bench.AC, 40);
        Bench.immediate(CHECKS, 0242, 40, 1).put(2, Checks.w(-4)).x(2).goesOn(Bench.AC, 5);
        Bench.immediate(CHECKS, 0242, 40, 0400000).put(2, 0400000).x(2).goesOn(Bench.AC, 40);
    }
}
