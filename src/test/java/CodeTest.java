/** Promise 4. */
public final class CodeTest {
    private static final Checks CHECKS = new Checks();
    private static final int[] FAR = {Integer.MIN_VALUE, Integer.MAX_VALUE, -65536, 65536};

    public static void main(String[] args) {
        makesOfParts();
        takesPlaces();
        takesOps();
        takesRegistersAsAc();
        takesI();
        takesRegistersAsX();
        takesAnyY();
        refusesSeveralBadParts();
        CHECKS.end();
    }

    private static Scene used() {
        return Scene.used(CHECKS, "in use");
    }

    private static void makes(int place, int op, int ac, boolean indirect, int x, int y, long due) {
        String call = "code(" + place + ", " + op + ", " + ac + ", " + indirect + ", " + x + ", " + y + ")";
        CHECKS.same(call, used().play().code(place, op, ac, indirect, x, y), due);
        used().changes(call, mill -> mill.code(place, op, ac, indirect, x, y), place, due);
    }

    private static void refuses(int place, int op, int ac, int x) {
        String call = "code(" + place + ", " + op + ", " + ac + ", true, " + x + ", 5)";
        used().refuses(call, mill -> mill.code(place, op, ac, true, x, 5));
    }

    private static void makesOfParts() {
        makes(77, 0, 0, false, 0, 0, 0L);
        makes(77, 0200, 1, false, 2, 5, (128L << 27) + (1L << 23) + (2L << 18) + 5);
        makes(77, 0125, 012, true, 05, 0252525, 0125525252525L);
        makes(77, 511, 15, true, 15, -1, Checks.WORD_MASK);
    }

    /** "at a place" (0 .. 4095). */
    private static void takesPlaces() {
        makes(0, 1, 0, false, 0, 3, (1L << 27) + 3);
        makes(1, 1, 0, false, 0, 3, (1L << 27) + 3);
        makes(4094, 1, 0, false, 0, 3, (1L << 27) + 3);
        makes(4095, 1, 0, false, 0, 3, (1L << 27) + 3);
        refuses(-1, 1, 1, 1);
        refuses(4096, 1, 1, 1);
        for (int place : FAR) {
            refuses(place, 1, 1, 1);
        }
    }

    /** "OP 0 .. 511". */
    private static void takesOps() {
        makes(77, 0, 1, false, 0, 0, 1L << 23);
        makes(77, 1, 0, false, 0, 0, 1L << 27);
        makes(77, 510, 0, false, 0, 0, 510L << 27);
        makes(77, 511, 0, false, 0, 0, 511L << 27);
        refuses(77, -1, 1, 1);
        refuses(77, 512, 1, 1);
        for (int op : FAR) {
            refuses(77, op, 1, 1);
        }
    }

    /** "AC 0 .. 15". */
    private static void takesRegistersAsAc() {
        makes(77, 1, 0, false, 0, 0, 1L << 27);
        makes(77, 0, 1, false, 0, 0, 1L << 23);
        makes(77, 0, 14, false, 0, 0, 14L << 23);
        makes(77, 0, 15, false, 0, 0, 15L << 23);
        refuses(77, 1, -1, 1);
        refuses(77, 1, 16, 1);
        for (int ac : FAR) {
            refuses(77, 1, ac, 1);
        }
    }

    private static void takesI() {
        makes(77, 0, 0, true, 0, 0, 1L << 22);
        makes(77, 511, 15, false, 15, -1, Checks.WORD_MASK - (1L << 22));
    }

    /** "X 0 .. 15". */
    private static void takesRegistersAsX() {
        makes(77, 1, 0, false, 0, 0, 1L << 27);
        makes(77, 0, 0, false, 1, 0, 1L << 18);
        makes(77, 0, 0, false, 14, 0, 14L << 18);
        makes(77, 0, 0, false, 15, 0, 15L << 18);
        refuses(77, 1, 1, -1);
        refuses(77, 1, 1, 16);
        for (int x : FAR) {
            refuses(77, 1, 1, x);
        }
    }

    /** "Y any: its lowest 18 bits". */
    private static void takesAnyY() {
        makes(77, 0, 0, false, 0, 1, 1L);
        makes(77, 0, 0, false, 0, 0x3FFFE, 0x3FFFEL);
        makes(77, 0, 0, false, 0, 0x3FFFF, 0x3FFFFL);
        makes(77, 0, 0, false, 0, 0x40000, 0L);
        makes(77, 0, 0, false, 0, 0x40001, 1L);
        makes(77, 0, 0, false, 0, -1, 0x3FFFFL);
        makes(77, 0, 0, false, 0, -2, 0x3FFFEL);
        makes(77, 0, 0, false, 0, -0x40000, 0L);
        makes(77, 0, 0, false, 0, -0x40001, 0x3FFFFL);
        makes(77, 0, 0, false, 0, Integer.MIN_VALUE, 0L);
        makes(77, 0, 0, false, 0, Integer.MAX_VALUE, 0x3FFFFL);
    }

    private static void refusesSeveralBadParts() {
        refuses(-1, 512, 16, 16);
        refuses(4096, -1, -1, -1);
        refuses(77, -1, 16, 1);
        refuses(77, 1, -1, 16);
    }
}
