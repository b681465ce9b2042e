/** Promises 2 and 3. */
public final class PutAndWordTest {
    private static final Checks CHECKS = new Checks();
    private static final int[] BAD_PLACES = {-1, 4096, -4096, 8191, 65536, Integer.MIN_VALUE, Integer.MAX_VALUE};

    public static void main(String[] args) {
        putsAtEveryPlace();
        putChangesOneWord();
        putRefusesOtherPlaces();
        wordRefusesOtherPlaces();
        wordChangesNothing();
        cutsTo36Bits();
        answersWithoutSign();
        CHECKS.end();
    }

    private static void putsAtEveryPlace() {
        for (int first = 0; first < 4096; first += 128) {
            WordMill mill = new WordMill();
            for (int place = first; place < first + 128; place++) {
                mill.put(place, place * 3L + 1);
            }
            for (int place = first; place < first + 128; place++) {
                CHECKS.same("word(" + place + ")", mill.word(place), place * 3L + 1);
            }
        }
    }

    /** "The WORD at a place (0 .. 4095) is w": both ends and their neighbours inside, and no other word is. */
    private static void putChangesOneWord() {
        int[] good = {0, 1, 15, 16, 4094, 4095};
        for (int place : good) {
            Scene.used(CHECKS, "good place").changes("put(" + place + ")", mill -> mill.put(place, 42), place, 42);
        }
        Scene.used(CHECKS, "at PC").changes("put(3005)", mill -> mill.put(3005, 42), 3005, 42);
    }

    /** "a place (0 .. 4095)", "Bad is a number out of range", of put. */
    private static void putRefusesOtherPlaces() {
        for (int place : BAD_PLACES) {
            Scene.used(CHECKS, "bad place").refuses("put(" + place + ")", mill -> mill.put(place, 1));
        }
    }

    /** "a place (0 .. 4095)", "Bad is a number out of range", of word. */
    private static void wordRefusesOtherPlaces() {
        for (int place : BAD_PLACES) {
            Scene.used(CHECKS, "bad place").refuses("word(" + place + ")", mill -> mill.word(place));
        }
    }

    private static void wordChangesNothing() {
        int[] good = {0, 15, 16, 4094, 4095};
        for (int place : good) {
            Scene.used(CHECKS, "good place").changes("word(" + place + ")", mill -> mill.word(place));
        }
    }

    /** "w, cut to 36 bits": any w is taken, and its bits 0 .. 35 stay. */
    private static void cutsTo36Bits() {
        for (int bit = 0; bit < 64; bit++) {
            putGives(1L << bit, bit < 36 ? 1L << bit : 0L);
            putGives(~(1L << bit), bit < 36 ? Checks.WORD_MASK - (1L << bit) : Checks.WORD_MASK);
        }
        putGives(0L, 0L);
        putGives((1L << 36) - 1, (1L << 36) - 1);
        putGives((1L << 36) + 1, 1L);
        putGives(-(1L << 36), 0L);
        putGives(-(1L << 36) - 1, Checks.WORD_MASK);
        putGives(Long.MIN_VALUE, 0L);
        putGives(Long.MAX_VALUE, Checks.WORD_MASK);
    }

    /** "The WORD at a place, without sign": the highest number, the lowest one and those beside them. */
    private static void answersWithoutSign() {
        putGives((1L << 35) - 1, (1L << 35) - 1);
        putGives(1L << 35, 1L << 35);
        putGives((1L << 35) + 1, (1L << 35) + 1);
        putGives(-(1L << 35), 1L << 35);
        putGives(-(1L << 35) - 1, (1L << 35) - 1);
        putGives(-1L, (1L << 36) - 1);
        putGives(0L, 0L);
        putGives(1L, 1L);
        WordMill mill = new WordMill();
        mill.code(0, 0275, 4, false, 0, 1);
        mill.run(1);
        CHECKS.same("word of a reckoned -1", mill.word(4), (1L << 36) - 1);
    }

    private static void putGives(long w, long due) {
        WordMill mill = new WordMill();
        mill.put(4095, 5);
        mill.put(4095, w);
        CHECKS.same("word after put(4095, " + w + ")", mill.word(4095), due);
    }
}
