/** Promise 5. */
public final class GoTest {
    public static void main(String[] args) {
        Checks checks = new Checks();
        WordMill mill = new WordMill();
        int[] good = {4095, 0, 1, 2048};
        for (int place : good) {
            mill.go(place);
            checks.same("PC after go(" + place + ")", mill.count(0), place);
        }
        int[] bad = {-1, 4096, Integer.MIN_VALUE, Integer.MAX_VALUE};
        for (int place : bad) {
            checks.refused("go(" + place + ")", () -> mill.go(place));
            checks.same("PC after go(" + place + ")", mill.count(0), 2048);
        }
        mill.code(4095, 0201, 1, false, 0, 9);
        mill.go(4095);
        checks.same("run at 4095", mill.run(1), 0);
        checks.same("register 1", mill.word(1), 9);
        checks.same("PC behind 4095", mill.count(0), 0);
        checks.end();
    }
}
