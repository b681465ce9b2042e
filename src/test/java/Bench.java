/** A machine with one instruction at place 100, C in register 3 and M at place 1000 unless said otherwise. */
final class Bench {
    static final int AT = 100;
    static final int AC = 3;
    static final int M_AT = 1000;

    /** Few enough to be read twice within the 512 calls that an object is promised for. */
    private static final int[] LOOKED_AT = {0, 1, 2, 3, 4, 5, 6, 7, 8, 9, 10, 11, 12, 13, 14, 15,
        AT - 1, AT, AT + 1, 499, 500, 501, 599, 600, 601, M_AT - 1, M_AT, M_AT + 1, 2000, 4094, 4095};

    final WordMill mill = new WordMill();
    private final Checks checks;
    private final String name;

    Bench(Checks checks, String name) {
        this.checks = checks;
        this.name = name;
        mill.go(AT);
    }

    static Bench of(Checks checks, int op, long c, long m) {
        return with(checks, op, c, m, M_AT);
    }

    static Bench immediate(Checks checks, int op, long c, int e) {
        return with(checks, op, c, 0, e);
    }

    private static Bench with(Checks checks, int op, long c, long m, int y) {
        String name = "op " + Integer.toOctalString(op) + " c=" + c + " m=" + m + " y=" + y;
        Bench bench = new Bench(checks, name);
        bench.mill.put(AC, c);
        bench.mill.put(M_AT, m);
        bench.mill.code(AT, op, AC, false, 0, y);
        return bench;
    }

    Bench put(int place, long w) {
        mill.put(place, w);
        return this;
    }

    Bench code(int op, int ac, boolean indirect, int x, int y) {
        mill.code(AT, op, ac, indirect, x, y);
        return this;
    }

    /** The instruction is done and PC goes to a place. */
    Bench goesTo(int place) {
        checks.same(name + ": run(1)", mill.run(1), 0);
        checks.same(name + ": count(0)", mill.count(0), place);
        checks.same(name + ": count(2)", mill.count(2), 1);
        return this;
    }

    Bench goesOn() {
        return goesTo(AT + 1);
    }

    /** The instruction has a fault, and no word looked at and no count is other than before. */
    Bench faults(int fault) {
        long[] before = words();
        int pc = mill.count(0);
        int all = mill.count(1);
        checks.same(name + ": run(1)", mill.run(1), fault);
        checks.same(name + ": count(0)", mill.count(0), pc);
        checks.same(name + ": count(1)", mill.count(1), all);
        checks.same(name + ": count(2)", mill.count(2), 0);
        long[] after = words();
        for (int i = 0; i < after.length; i++) {
            checks.same(name + ": word(" + LOOKED_AT[i] + ")", after[i], before[i]);
        }
        return this;
    }

    Bench word(int place, long due) {
        checks.same(name + ": word(" + place + ")", mill.word(place), due);
        return this;
    }

    Bench c(long due) {
        return word(AC, due);
    }

    Bench m(long due) {
        return word(M_AT, due);
    }

    private long[] words() {
        long[] words = new long[LOOKED_AT.length];
        for (int i = 0; i < words.length; i++) {
            words[i] = mill.word(LOOKED_AT[i]);
        }
        return words;
    }
}
