/** Promise 4. */
public final class CodeTest {
    private static final Checks CHECKS = new Checks();

    public static void main(String[] args) {
        makes(0, 0, false, 0, 0, 0L);
        makes(1, 0, false, 0, 0, 1L << 27);
        makes(0, 1, false, 0, 0, 1L << 23);
        makes(0, 0, true, 0, 0, 1L << 22);
        makes(0, 0, false, 1, 0, 1L << 18);
        makes(0, 0, false, 0, 1, 1L);
        makes(511, 15, true, 15, 0x3FFFF, Checks.WORD_MASK);
        makes(511, 15, true, 15, -1, Checks.WORD_MASK);
        makes(0200, 1, false, 2, 5, partsOfTheMiddle());
        makes(0, 0, false, 0, 0x40000, 0L);
        makes(0, 0, false, 0, 0x40007, 7L);
        makes(0, 0, false, 0, -2, 0x3FFFEL);
        makes(0, 0, false, 0, Integer.MIN_VALUE, 0L);
        makes(0, 0, false, 0, Integer.MAX_VALUE, 0x3FFFFL);
        takesTheEdgePlaces();
        refusesBadParts();
        CHECKS.end();
    }

    private static long partsOfTheMiddle() {
        return (128L << 27) | (1L << 23) | (2L << 18) | 5L;
    }

    private static void makes(int op, int ac, boolean indirect, int x, int y, long due) {
        WordMill mill = new WordMill();
        mill.put(77, 0x123456789L);
        String call = "code(77, " + op + ", " + ac + ", " + indirect + ", " + x + ", " + y + ")";
        CHECKS.same(call, mill.code(77, op, ac, indirect, x, y), due);
        CHECKS.same("word after " + call, mill.word(77), due);
        CHECKS.same("PC after " + call, mill.count(0), 0);
    }

    private static void takesTheEdgePlaces() {
        WordMill mill = new WordMill();
        mill.code(0, 1, 0, false, 0, 3);
        mill.code(4095, 1, 0, false, 0, 4);
        CHECKS.same("code at 0", mill.word(0), (1L << 27) + 3);
        CHECKS.same("code at 4095", mill.word(4095), (1L << 27) + 4);
    }

    private static void refusesBadParts() {
        WordMill mill = new WordMill();
        mill.put(77, 5);
        int[] badPlaces = {-1, 4096, Integer.MIN_VALUE, Integer.MAX_VALUE};
        for (int place : badPlaces) {
            CHECKS.refused("code at " + place, () -> mill.code(place, 1, 1, false, 1, 1));
        }
        int[] badOps = {-1, 512, Integer.MIN_VALUE, Integer.MAX_VALUE};
        for (int op : badOps) {
            CHECKS.refused("code of op " + op, () -> mill.code(77, op, 1, false, 1, 1));
        }
        int[] badRegisters = {-1, 16, Integer.MIN_VALUE, Integer.MAX_VALUE};
        for (int register : badRegisters) {
            CHECKS.refused("code of ac " + register, () -> mill.code(77, 1, register, false, 1, 1));
            CHECKS.refused("code of x " + register, () -> mill.code(77, 1, 1, false, register, 1));
        }
        CHECKS.same("refused codes leave the word", mill.word(77), 5);
    }
}
