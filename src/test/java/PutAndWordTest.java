/** Promises 2 and 3. */
public final class PutAndWordTest {
    private static final Checks CHECKS = new Checks();

    public static void main(String[] args) {
        for (int first = 0; first < 4096; first += 128) {
            putsAtPlaces(first, first + 128);
        }
        cutsTo36Bits();
        refusesOtherPlaces();
        CHECKS.end();
    }

    /** One object for some places, as no object is promised for more than 512 calls. */
    private static void putsAtPlaces(int first, int end) {
        WordMill mill = new WordMill();
        for (int place = first; place < end; place++) {
            mill.put(place, place * 3L + 1);
        }
        for (int place = first; place < end; place++) {
            CHECKS.same("word(" + place + ")", mill.word(place), place * 3L + 1);
        }
        CHECKS.same("put leaves PC", mill.count(0), 0);
    }

    private static void cutsTo36Bits() {
        putGives(0L, 0L);
        putGives(-1L, Checks.WORD_MASK);
        putGives(1L << 35, 1L << 35);
        putGives((1L << 36) - 1, (1L << 36) - 1);
        putGives(1L << 36, 0L);
        putGives((1L << 36) + 5, 5L);
        putGives(Long.MIN_VALUE, 0L);
        putGives(Long.MAX_VALUE, Checks.WORD_MASK);
        putGives(-(1L << 35), 1L << 35);
    }

    private static void putGives(long w, long due) {
        WordMill mill = new WordMill();
        mill.put(4095, w);
        CHECKS.same("word after put(" + w + ")", mill.word(4095), due);
    }

    private static void refusesOtherPlaces() {
        WordMill mill = new WordMill();
        int[] bad = {-1, 4096, Integer.MIN_VALUE, Integer.MAX_VALUE};
        for (int place : bad) {
            CHECKS.refused("put(" + place + ")", () -> mill.put(place, 1));
            CHECKS.refused("word(" + place + ")", () -> mill.word(place));
        }
        int[] near = {0, 1, 4094, 4095};
        for (int place : near) {
            CHECKS.same("refused puts leave word(" + place + ")", mill.word(place), 0);
        }
    }
}
