/** The ops that move and reckon, but for division and shifts: 200 .. 250, 270 .. 275, 400 .. 450, 500 .. 554. */
public final class WordsTest {
    private static final Checks CHECKS = new Checks();
    private static final long LOWEST = Checks.LOWEST;
    private static final long HIGHEST = Checks.HIGHEST;
    private static final long ONES = Checks.WORD_MASK;
    private static final long A = Checks.halves(0123456, 0654321);
    private static final long B = Checks.halves(0707070, 0111222);
    private static final int AC = Bench.AC;

    public static void main(String[] args) {
        moves();
        exchangesHalves();
        negates();
        takesTheSignAway();
        stores();
        exchanges();
        takesEWithoutSign();
        cutsProducts();
        cutsSums();
        cutsDifferences();
        joinsBits();
        setsZeroAndContrary();
        otherHalfStays();
        clearsTheOtherHalf();
        usesEveryRegister();
        needsM();
        needsNoM();
        CHECKS.end();
    }

    /** C = something of C and M; all else stays. */
    private static void gives(int op, long c, long m, long due) {
        Bench.of(CHECKS, op, c, m).goesOn(AC, due);
    }

    private static void givesOfE(int op, long c, int e, long due) {
        Bench.immediate(CHECKS, op, c, e).goesOn(AC, due);
    }

    private static long w(long number) {
        return Checks.w(number);
    }

    private static void moves() {
        gives(0200, 5, A, A);
        gives(0200, 5, 0, 0);
        gives(0200, 0, ONES, ONES);
        gives(0200, 5, LOWEST, LOWEST);
        Bench.of(CHECKS, 0200, A, B).y(AC).goesOn(AC, A);
    }

    private static void exchangesHalves() {
        gives(0204, 5, A, Checks.halves(0654321, 0123456));
        gives(0204, 5, Checks.halves(0777777, 1), Checks.halves(1, 0777777));
        gives(0204, 5, Checks.halves(0, 0777777), Checks.halves(0777777, 0));
        gives(0204, 5, Checks.halves(0777777, 0), 0777777);
        Bench.of(CHECKS, 0204, A, B).y(AC).goesOn(AC, Checks.halves(0654321, 0123456));
    }

    /** "210 C = -M", "cut to 36 bits": 0 and the lowest number are their own contraries. */
    private static void negates() {
        gives(0210, 5, 7, w(-7));
        gives(0210, 5, w(-7), 7);
        gives(0210, 5, 1, ONES);
        gives(0210, 5, ONES, 1);
        gives(0210, 5, 0, 0);
        gives(0210, 5, HIGHEST, LOWEST + 1);
        gives(0210, 5, LOWEST + 1, HIGHEST);
        gives(0210, 5, LOWEST, LOWEST);
    }

    /** "214 C = M without its sign", "cut to 36 bits": the lowest number's magnitude is cut to itself. */
    private static void takesTheSignAway() {
        gives(0214, 5, 7, 7);
        gives(0214, 5, w(-7), 7);
        gives(0214, 5, 1, 1);
        gives(0214, 5, 0, 0);
        gives(0214, 5, w(-1), 1);
        gives(0214, 5, HIGHEST, HIGHEST);
        gives(0214, 5, LOWEST + 1, HIGHEST);
        gives(0214, 5, LOWEST, LOWEST);
    }

    private static void stores() {
        Bench.of(CHECKS, 0202, A, B).goesOn(Bench.M_AT, A);
        Bench.of(CHECKS, 0202, 0, B).goesOn(Bench.M_AT, 0);
        Bench.of(CHECKS, 0202, A, B).y(4).goesOn(4, A);
        Bench.of(CHECKS, 0402, A, B).goesOn(Bench.M_AT, 0);
        Bench.of(CHECKS, 0402, A, ONES).goesOn(Bench.M_AT, 0);
        Bench.of(CHECKS, 0402, A, B).y(AC).goesOn(AC, 0);
    }

    private static void exchanges() {
        Bench.of(CHECKS, 0250, A, B).goesOn(AC, B, Bench.M_AT, A);
        Bench.of(CHECKS, 0250, A, B).y(AC).goesOn(AC, A);
        Bench.of(CHECKS, 0250, A, B).put(4, 9).y(4).goesOn(AC, 9, 4, A);
    }

    /** "E itself, 18 bits, no sign". */
    private static void takesEWithoutSign() {
        givesOfE(0201, A, 0, 0);
        givesOfE(0201, A, 1, 1);
        givesOfE(0201, A, 0377777, 0377777);
        givesOfE(0201, A, 0400000, 0400000);
        givesOfE(0201, A, -1, 0777777);
        givesOfE(0221, w(-1), -1, w(-0777777));
        givesOfE(0271, 5, -1, 01000004);
        givesOfE(0275, 0, -1, w(-0777777));
        givesOfE(0405, ONES, -1, 0777777);
        givesOfE(0431, ONES, -1, Checks.halves(0777777, 0));
        givesOfE(0435, 0, -1, 0777777);
    }

    /** "220, 221 C = C times M, I", "cut to 36 bits". */
    private static void cutsProducts() {
        gives(0220, 6, 7, 42);
        gives(0220, w(-6), 7, w(-42));
        gives(0220, 6, w(-7), w(-42));
        gives(0220, w(-6), w(-7), 42);
        gives(0220, A, 0, 0);
        gives(0220, 1L << 17, 1L << 17, 1L << 34);
        gives(0220, 1L << 18, 1L << 17, LOWEST);
        gives(0220, 1L << 18, 1L << 18, 0);
        gives(0220, (1L << 18) + 1, (1L << 18) + 1, (1L << 19) + 1);
        gives(0220, HIGHEST, HIGHEST, 1);
        gives(0220, HIGHEST, 2, w(-2));
        gives(0220, LOWEST, w(-1), LOWEST);
        gives(0220, LOWEST, 2, 0);
        gives(0220, LOWEST, LOWEST, 0);
        gives(0220, ONES, ONES, 1);
        Bench.of(CHECKS, 0220, 7, 5).y(AC).goesOn(AC, 49);
        givesOfE(0221, 6, 7, 42);
        givesOfE(0221, 6, 0, 0);
        givesOfE(0221, 6, 1, 6);
        givesOfE(0221, HIGHEST, 2, w(-2));
        givesOfE(0221, LOWEST, 2, 0);
        givesOfE(0221, LOWEST + 1, 2, 2);
    }

    /** "270, 271 C = C + M, I", "cut to 36 bits". */
    private static void cutsSums() {
        gives(0270, 5, 7, 12);
        gives(0270, 5, w(-7), w(-2));
        gives(0270, HIGHEST, 0, HIGHEST);
        gives(0270, HIGHEST, 1, LOWEST);
        gives(0270, ONES, 0, ONES);
        gives(0270, ONES, 1, 0);
        gives(0270, ONES, 2, 1);
        gives(0270, ONES, ONES, ONES - 1);
        gives(0270, LOWEST, LOWEST, 0);
        Bench.of(CHECKS, 0270, 7, 5).y(AC).goesOn(AC, 14);
        givesOfE(0271, 5, 7, 12);
        givesOfE(0271, ONES - 1, 1, ONES);
        givesOfE(0271, ONES, 1, 0);
        givesOfE(0271, ONES, 2, 1);
        givesOfE(0271, HIGHEST, 1, LOWEST);
    }

    /** "274, 275 C = C - M, I", "cut to 36 bits". */
    private static void cutsDifferences() {
        gives(0274, 5, 7, w(-2));
        gives(0274, 5, w(-7), 12);
        gives(0274, 1, 1, 0);
        gives(0274, 0, 1, ONES);
        gives(0274, LOWEST + 1, 1, LOWEST);
        gives(0274, LOWEST, 1, HIGHEST);
        gives(0274, 0, LOWEST, LOWEST);
        gives(0274, 0, ONES, 1);
        Bench.of(CHECKS, 0274, 7, 5).y(AC).goesOn(AC, 0);
        givesOfE(0275, 5, 7, w(-2));
        givesOfE(0275, 1, 1, 0);
        givesOfE(0275, 0, 1, ONES);
        givesOfE(0275, LOWEST, 1, HIGHEST);
    }

    private static void joinsBits() {
        gives(0404, 12, 10, 8);
        gives(0404, ONES, B, B);
        gives(0404, A, 0, 0);
        gives(0430, 12, 10, 6);
        gives(0430, ONES, B, B ^ ONES);
        gives(0430, A, A, 0);
        gives(0434, 12, 10, 14);
        gives(0434, LOWEST, 1, LOWEST + 1);
        gives(0434, 0, ONES, ONES);
        givesOfE(0405, 12, 10, 8);
        givesOfE(0431, 12, 10, 6);
        givesOfE(0435, 12, 10, 14);
        givesOfE(0435, A, 0, A);
    }

    /** "400 C = 0", "450 C = its contrary", "cut to 36 bits". */
    private static void setsZeroAndContrary() {
        givesOfE(0400, A, 5, 0);
        givesOfE(0400, ONES, -1, 0);
        givesOfE(0450, A, 5, A ^ ONES);
        givesOfE(0450, 0, -1, ONES);
        givesOfE(0450, ONES, 0, 0);
        givesOfE(0450, LOWEST, 0, HIGHEST);
    }

    /** "(The other half stays.)", of 500, 504, 540, 544. */
    private static void otherHalfStays() {
        gives(0500, A, B, Checks.halves(0707070, 0654321));
        gives(0504, A, B, Checks.halves(0111222, 0654321));
        gives(0540, A, B, Checks.halves(0123456, 0111222));
        gives(0544, A, B, Checks.halves(0123456, 0707070));
        gives(0500, 0, ONES, Checks.halves(0777777, 0));
        gives(0504, 0, ONES, Checks.halves(0777777, 0));
        gives(0540, 0, ONES, 0777777);
        gives(0544, 0, ONES, 0777777);
        gives(0500, ONES, 0, 0777777);
        gives(0504, ONES, 0, 0777777);
        gives(0540, ONES, 0, Checks.halves(0777777, 0));
        gives(0544, ONES, 0, Checks.halves(0777777, 0));
        Bench.of(CHECKS, 0500, A, B).y(AC).goesOn(AC, A);
        Bench.of(CHECKS, 0504, A, B).y(AC).goesOn(AC, Checks.halves(0654321, 0654321));
        Bench.of(CHECKS, 0540, A, B).y(AC).goesOn(AC, A);
        Bench.of(CHECKS, 0544, A, B).y(AC).goesOn(AC, Checks.halves(0123456, 0123456));
    }

    /** "550 C = M's right half; 554 C = M's left half": nothing of C stays. */
    private static void clearsTheOtherHalf() {
        gives(0550, ONES, B, 0111222);
        gives(0554, ONES, B, 0707070);
        gives(0550, ONES, ONES, 0777777);
        gives(0554, ONES, ONES, 0777777);
        gives(0550, ONES, Checks.halves(0777777, 0), 0);
        gives(0554, ONES, 0777777, 0);
        Bench.of(CHECKS, 0550, A, B).y(AC).goesOn(AC, 0654321);
        Bench.of(CHECKS, 0554, A, B).y(AC).goesOn(AC, 0123456);
    }

    /** "REGISTERS are WORDS 0 .. 15", as C and as M; 16 is a word like others. */
    private static void usesEveryRegister() {
        for (int register = 0; register < 16; register++) {
            Bench.named(CHECKS, "C " + register, 0201).ac(register).y(77).goesOn(register, 77);
            Bench.named(CHECKS, "C " + register, 0202).put(register, A).ac(register).goesOn(Bench.M_AT, A);
            Bench.named(CHECKS, "M " + register, 0402).y(register).goesOn(register, 0);
        }
        Bench.named(CHECKS, "M 16", 0402).y(16).goesOn(16, 0);
    }

    /** "A WORD's place above 4095: FAULT 2", of each op that names M. */
    private static void needsM() {
        int[] ops = {0200, 0202, 0204, 0210, 0214, 0220, 0250, 0270, 0274, 0402, 0404, 0430, 0434,
            0500, 0504, 0540, 0544, 0550, 0554};
        for (int op : ops) {
            Bench.immediate(CHECKS, op, A, 4096).faults(2);
            Bench.immediate(CHECKS, op, A, 4097).faults(2);
            Bench.immediate(CHECKS, op, A, -1).faults(2);
        }
        Bench.immediate(CHECKS, 0204, A, 4095).put(4095, B).goesOn(AC, Checks.halves(0111222, 0707070));
        Bench.immediate(CHECKS, 0210, A, 4095).put(4095, 1).goesOn(AC, ONES);
        Bench.immediate(CHECKS, 0214, A, 4095).put(4095, ONES).goesOn(AC, 1);
        Bench.immediate(CHECKS, 0220, 6, 4095).put(4095, 7).goesOn(AC, 42);
        Bench.immediate(CHECKS, 0250, A, 4095).put(4095, B).goesOn(AC, B, 4095, A);
        Bench.immediate(CHECKS, 0270, 6, 4095).put(4095, 7).goesOn(AC, 13);
        Bench.immediate(CHECKS, 0274, 8, 4095).put(4095, 7).goesOn(AC, 1);
        Bench.immediate(CHECKS, 0402, A, 4095).goesOn(4095, 0);
        Bench.immediate(CHECKS, 0404, 12, 4095).put(4095, 10).goesOn(AC, 8);
        Bench.immediate(CHECKS, 0430, 12, 4095).put(4095, 10).goesOn(AC, 6);
        Bench.immediate(CHECKS, 0434, 12, 4095).put(4095, 10).goesOn(AC, 14);
        Bench.immediate(CHECKS, 0554, A, 4095).put(4095, B).goesOn(AC, 0707070);
    }

    /** E above 4095 is no word's place where E itself is meant, or nothing. */
    private static void needsNoM() {
        givesOfE(0201, 5, 4096, 4096);
        givesOfE(0221, 5, 4096, 5 * 4096);
        givesOfE(0271, 5, 4096, 4101);
        givesOfE(0275, 5, 4096, w(-4091));
        givesOfE(0400, 5, 4096, 0);
        givesOfE(0405, ONES, 4096, 4096);
        givesOfE(0431, 5, 4096, 4101);
        givesOfE(0435, 5, 4096, 4101);
        givesOfE(0450, 0, 4096, ONES);
    }
}
