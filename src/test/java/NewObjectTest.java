/** Promise 1. */
public final class NewObjectTest {
    public static void main(String[] args) {
        Checks checks = new Checks();
        WordMill used = new WordMill();
        used.put(5, 7);
        used.go(9);
        used.run(1);
        WordMill mill = new WordMill();
        checks.same("new: PC", mill.count(0), 0);
        checks.same("new: done in all", mill.count(1), 0);
        checks.same("new: done in the latest run", mill.count(2), 0);
        checks.same("new: run(1) meets a 0", mill.run(1), -1);
        for (int first = 0; first < 4096; first += 256) {
            holdsZeros(checks, first);
        }
        checks.same("the used one keeps its word", used.word(5), 7);
        checks.same("the used one keeps its PC", used.count(0), 10);
        checks.end();
    }

    /** One object for 256 places, as no object is promised for more than 512 calls. */
    private static void holdsZeros(Checks checks, int first) {
        WordMill mill = new WordMill();
        for (int place = first; place < first + 256; place++) {
            checks.same("new: word(" + place + ")", mill.word(place), 0);
        }
    }
}
