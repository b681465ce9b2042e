/** Promise 5. */
public final class GoTest {
    private static final Checks CHECKS = new Checks();

    public static void main(String[] args) {
        goesToPlaces();
        refusesOtherPlaces();
        runsFromThere();
        CHECKS.end();
    }

    /** "PC is a place" (0 .. 4095): both ends and their neighbours inside; nothing but PC is other than before. */
    private static void goesToPlaces() {
        int[] good = {0, 1, 15, 16, 2048, 4094, 4095};
        for (int place : good) {
            Scene.used(CHECKS, "good place").changes("go(" + place + ")", mill -> mill.go(place), Scene.PC, place);
        }
    }

    /** "Bad is a number out of range", of go. */
    private static void refusesOtherPlaces() {
        int[] bad = {-1, 4096, -4096, 8191, 65536, Integer.MIN_VALUE, Integer.MAX_VALUE};
        for (int place : bad) {
            Scene.used(CHECKS, "bad place").refuses("go(" + place + ")", mill -> mill.go(place));
        }
    }

    private static void runsFromThere() {
        Bench.immediate(CHECKS, 0201, 5, 9).at(4095).goesTo(0, Bench.AC, 9);
        Bench.immediate(CHECKS, 0201, 5, 9).at(16).goesTo(17, Bench.AC, 9);
        Bench.immediate(CHECKS, 0201, 5, 9).at(0).goesTo(1, Bench.AC, 9);
    }
}
