/** Promises 6, 7 and 8: how a run goes on and ends, and what is counted. */
public final class RunAndCountTest {
    private static final Checks CHECKS = new Checks();

    public static void main(String[] args) {
        runsUpToN();
        endsBehindTheEnd();
        stopsAtAFault();
        runsNothing();
        runsTheMost();
        refusesOtherNumbers();
        wrapsAround();
        obeysWhatItWrites();
        countsNothingElse();
        CHECKS.end();
    }

    private static WordMill counting(int length) {
        WordMill mill = new WordMill();
        for (int i = 0; i < length; i++) {
            mill.code(100 + i, 0271, 1, false, 0, 1);
        }
        mill.go(100);
        return mill;
    }

    private static void counts(String when, WordMill mill, int pc, int all, int latest) {
        CHECKS.same(when + ": count(0)", mill.count(0), pc);
        CHECKS.same(when + ": count(1)", mill.count(1), all);
        CHECKS.same(when + ": count(2)", mill.count(2), latest);
    }

    private static void runsUpToN() {
        WordMill mill = counting(10);
        CHECKS.same("run(3)", mill.run(3), 0);
        counts("run(3)", mill, 103, 3, 3);
        CHECKS.same("run(2)", mill.run(2), 0);
        counts("run(2)", mill, 105, 5, 2);
        CHECKS.same("register 1", mill.word(1), 5);
    }

    private static void endsBehindTheEnd() {
        WordMill mill = counting(3);
        CHECKS.same("run up to just before the end", mill.run(3), 0);
        counts("just before the end", mill, 103, 3, 3);
        CHECKS.same("run(1) of the end", mill.run(1), -1);
        counts("behind the end", mill, 104, 4, 1);
        mill.go(100);
        CHECKS.same("run(20000) with an end", mill.run(20000), -1);
        counts("behind the end again", mill, 104, 8, 4);
        WordMill parts = new WordMill();
        parts.code(20, 0, 15, false, 3, 0x3FFFF);
        parts.go(20);
        CHECKS.same("0 with other parts ends", parts.run(5), -1);
        counts("0 with other parts", parts, 21, 1, 1);
    }

    private static void stopsAtAFault() {
        WordMill mill = counting(3);
        mill.code(103, 0777, 0, false, 0, 0);
        CHECKS.same("run into a fault", mill.run(9), 1);
        counts("at the fault", mill, 103, 3, 3);
        CHECKS.same("run at the fault", mill.run(9), 1);
        counts("at the fault still", mill, 103, 3, 0);
        CHECKS.same("run(0) at the fault", mill.run(0), 0);
        mill.code(103, 0271, 1, false, 0, 1);
        CHECKS.same("run of the mended word", mill.run(1), 0);
        counts("behind the mended word", mill, 104, 4, 1);
    }

    private static void runsNothing() {
        WordMill mill = counting(3);
        mill.run(2);
        CHECKS.same("run(0)", mill.run(0), 0);
        counts("run(0)", mill, 102, 2, 0);
    }

    private static void runsTheMost() {
        WordMill mill = new WordMill();
        mill.code(10, 0344, 1, false, 0, 10);
        mill.go(10);
        CHECKS.same("run(20000)", mill.run(20000), 0);
        counts("run(20000)", mill, 10, 20000, 20000);
        CHECKS.same("register 1", mill.word(1), 20000);
        for (int i = 0; i < 500; i++) {
            mill.run(20000);
        }
        counts("501 runs", mill, 10, 501 * 20000, 20000);
    }

    private static void refusesOtherNumbers() {
        WordMill mill = counting(5);
        mill.run(2);
        int[] bad = {-1, 20001, Integer.MIN_VALUE, Integer.MAX_VALUE};
        for (int n : bad) {
            CHECKS.refused("run(" + n + ")", () -> mill.run(n));
            counts("run(" + n + ")", mill, 102, 2, 2);
            CHECKS.same("run(" + n + ") leaves register 1", mill.word(1), 2);
        }
    }

    private static void wrapsAround() {
        WordMill end = new WordMill();
        end.go(4095);
        CHECKS.same("an end at 4095", end.run(2), -1);
        counts("an end at 4095", end, 0, 1, 1);
        WordMill skip = new WordMill();
        skip.code(4095, 0304, 0, false, 0, 0);
        skip.go(4095);
        CHECKS.same("a skip at 4095", skip.run(1), 0);
        counts("a skip at 4095", skip, 1, 1, 1);
        WordMill skipTo = new WordMill();
        skipTo.code(4094, 0304, 0, false, 0, 0);
        skipTo.go(4094);
        CHECKS.same("a skip at 4094", skipTo.run(1), 0);
        counts("a skip at 4094", skipTo, 0, 1, 1);
    }

    private static void obeysWhatItWrites() {
        WordMill mill = new WordMill();
        mill.code(100, 0202, 3, false, 0, 101);
        mill.put(3, mill.code(50, 0201, 5, false, 0, 42));
        mill.go(100);
        CHECKS.same("run of a written word", mill.run(9), -1);
        CHECKS.same("register 5", mill.word(5), 42);
        WordMill registers = new WordMill();
        registers.code(0, 0201, 1, false, 0, 7);
        registers.code(1, 0777, 0, false, 0, 0);
        CHECKS.same("run in the registers", registers.run(9), -1);
        counts("run in the registers", registers, 2, 2, 2);
    }

    private static void countsNothingElse() {
        WordMill mill = counting(5);
        mill.run(2);
        int[] others = {-1, 3, 4, Integer.MIN_VALUE, Integer.MAX_VALUE};
        for (int what : others) {
            CHECKS.same("count(" + what + ")", mill.count(what), -1);
        }
    }
}
