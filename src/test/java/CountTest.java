import java.lang.reflect.Field;

/** Promise 7. */
public final class CountTest {
    private static final Checks CHECKS = new Checks();

    public static void main(String[] args) throws IllegalAccessException {
        answersEachCount();
        answersNothingElse();
        countsAllRuns();
        cutsTo31Bits();
        CHECKS.end();
    }

    private static Scene turning() {
        return Scene.used(CHECKS, "turning").code(200, 0254, 0, false, 0, 200).go(200);
    }

    private static void counts(String when, WordMill mill, int pc, int all, int latest) {
        CHECKS.same(when + ": count(0)", mill.count(0), pc);
        CHECKS.same(when + ": count(1)", mill.count(1), all);
        CHECKS.same(when + ": count(2)", mill.count(2), latest);
    }

    /** "PC (0), INSTRUCTIONS done in all (1), in the latest run (2)". */
    private static void answersEachCount() {
        WordMill mill = turning().play();
        counts("before a run", mill, 200, 5, 3);
        mill.run(7);
        counts("after run(7)", mill, 200, 12, 7);
        mill.run(1);
        counts("after run(1)", mill, 200, 13, 1);
        mill.run(0);
        counts("after run(0)", mill, 200, 13, 0);
    }

    /** "else -1": beyond 0 .. 2 on both sides, without an exception and without a change. */
    private static void answersNothingElse() {
        int[] others = {-1, 3, -2, 4, 256, 65536, Integer.MIN_VALUE, Integer.MAX_VALUE};
        for (int what : others) {
            CHECKS.same("count(" + what + ")", turning().play().count(what), -1);
            turning().changes("count(" + what + ")", mill -> mill.count(what));
        }
        for (int what = 0; what < 3; what++) {
            int each = what;
            turning().changes("count(" + what + ")", mill -> mill.count(each));
        }
    }

    /** As many as an object is promised for. */
    private static void countsAllRuns() {
        WordMill mill = new WordMill();
        mill.code(200, 0254, 0, false, 0, 200);
        mill.go(200);
        for (int i = 1; i <= 500; i++) {
            mill.run(20000);
            if (i == 1 || i == 2 || i == 500) {
                CHECKS.same("count(1) after " + i + " runs", mill.count(1), 20000L * i);
            }
        }
        counts("after 500 runs", mill, 200, 10000000, 20000);
    }

    /**
     * "cut to 31 bits": 512 calls do not lead there, so the count is set inside the object, to just below the highest,
     * at it, and beyond.
     */
    private static void cutsTo31Bits() throws IllegalAccessException {
        WordMill mill = turning().play();
        mill.run(1000);
        Field all = fieldThatHolds(mill, 1005);
        if (all == null) {
            System.out.println("not looked at: no field of the object holds the count");
            return;
        }
        all.set(mill, 0x7FFFFFFD);
        mill.run(1);
        counts("just below the highest", mill, 200, 0x7FFFFFFE, 1);
        mill.run(1);
        counts("at the highest", mill, 200, 0x7FFFFFFF, 1);
        mill.run(1);
        counts("one beyond", mill, 200, 0, 1);
        mill.run(1);
        counts("two beyond", mill, 200, 1, 1);
        all.set(mill, 0x7FFFFFFD);
        mill.run(20000);
        counts("across within one run", mill, 200, 19997, 20000);
    }

    private static Field fieldThatHolds(WordMill mill, int number) throws IllegalAccessException {
        for (Field each : WordMill.class.getDeclaredFields()) {
            each.setAccessible(true);
            if (each.get(mill) instanceof Number held && held.longValue() == number) {
                return each;
            }
        }
        return null;
    }
}
