/** E: Y, X, I, the limit of twenty indirections (promise 8), and places above 4095. */
public final class AddressTest {
    private static final Checks CHECKS = new Checks();
    private static final int MOVE = 0200;
    private static final int MOVE_E = 0201;
    private static final int END = 0;

    public static void main(String[] args) {
        addsTheIndex();
        followsIndirection();
        standsAtTheTwentieth();
        faultsAboveTheMemory();
        seeksEForEveryOp();
        CHECKS.end();
    }

    private static Bench bench(String name) {
        return new Bench(CHECKS, name);
    }

    private static void addsTheIndex() {
        bench("no index").put(0, 9).code(MOVE_E, 1, false, 0, 5).goesOn().word(1, 5);
        bench("index").put(2, 9).code(MOVE_E, 1, false, 2, 5).goesOn().word(1, 14);
        bench("index 15").put(15, 9).code(MOVE_E, 1, false, 15, 5).goesOn().word(1, 14);
        bench("index by its right half").put(2, Checks.halves(7, 9)).code(MOVE_E, 1, false, 2, 5)
                .goesOn().word(1, 14);
        bench("E cut to 18 bits").put(2, 9).code(MOVE_E, 1, false, 2, -1).goesOn().word(1, 8);
        bench("highest E").put(2, 0x3FFFE).code(MOVE_E, 1, false, 2, 1).goesOn().word(1, 0x3FFFF);
        bench("index below 0").put(2, Checks.w(-3)).put(997, 4).code(MOVE, 1, false, 2, 1000).goesOn().word(1, 4);
        bench("index is C too").put(1, 9).code(MOVE_E, 1, false, 1, 5).goesOn().word(1, 14);
        bench("M in a register").put(4, 8).code(MOVE, 1, false, 0, 4).goesOn().word(1, 8);
        bench("M at 4095").put(4095, 8).code(MOVE, 1, false, 0, 4095).goesOn().word(1, 8);
    }

    private static void followsIndirection() {
        bench("indirect").put(500, 77).code(MOVE_E, 1, true, 0, 500).goesOn().word(1, 77);
        bench("index, then indirect").put(2, 3).put(503, 77).code(MOVE_E, 1, true, 2, 500).goesOn().word(1, 77);
        Bench second = bench("the second index").put(2, 3);
        second.mill.code(500, 0777, 15, false, 2, 70);
        second.code(MOVE_E, 1, true, 0, 500).goesOn().word(1, 73);
        Bench twice = bench("indirect twice").put(600, 88);
        twice.mill.code(500, 0, 0, true, 0, 600);
        twice.code(MOVE_E, 1, true, 0, 500).goesOn().word(1, 88);
        bench("an indirect E may be above 4095").put(500, 0x3FFFF).code(MOVE_E, 1, true, 0, 500)
                .goesOn().word(1, 0x3FFFF);
        bench("indirect through 4095").put(4095, 6).code(MOVE_E, 1, true, 0, 4095).goesOn().word(1, 6);
    }

    /** The words from 500 on are each indirect to the next one, but the last of the chain. */
    private static Bench chain(String name, int indirections, boolean lastIsIndirect, int lastY) {
        Bench bench = bench(name);
        for (int i = 1; i < indirections; i++) {
            bench.mill.code(499 + i, END, 0, true, 0, 500 + i);
        }
        bench.mill.code(499 + indirections, END, 0, lastIsIndirect, 0, lastY);
        return bench.code(MOVE_E, 1, true, 0, 500);
    }

    private static void standsAtTheTwentieth() {
        chain("19 indirections", 19, false, 700).goesOn().word(1, 700);
        chain("20 indirections", 20, false, 700).goesOn().word(1, 700);
        chain("the 20th word's I is not looked at", 20, true, 700).put(700, 800).goesOn().word(1, 700);
        chain("the 19th word's I is", 19, true, 700).put(700, 800).goesOn().word(1, 800);
        chain("the 21st word is not reached", 21, false, 700).goesOn().word(1, 520);
        chain("above 4095 at the 20th", 20, true, 4096).goesOn().word(1, 4096);
        chain("above 4095 at the 19th", 19, true, 4096).faults(2);
        Bench loop = bench("a word that is indirect to itself");
        loop.mill.code(500, END, 0, true, 0, 500);
        loop.code(MOVE_E, 1, true, 0, 500).goesOn().word(1, 500);
        Bench growing = bench("the 20th word's X and Y count").put(2, 1);
        for (int i = 0; i < 40; i++) {
            growing.mill.code(500 + i, END, 0, true, 2, 500 + i);
        }
        growing.code(MOVE_E, 1, true, 0, 500).goesOn().word(1, 520);
    }

    private static void faultsAboveTheMemory() {
        bench("M at 4096").code(MOVE, 1, false, 0, 4096).faults(2);
        bench("M at the highest E").code(MOVE, 1, false, 0, -1).faults(2);
        bench("M above by the index").put(2, 1).code(MOVE, 1, false, 2, 4095).faults(2);
        bench("indirect at 4096").code(MOVE_E, 1, true, 0, 4096).faults(2);
        bench("indirect above by the index").put(2, 1).code(MOVE_E, 1, true, 2, 4095).faults(2);
        bench("M above by indirection").put(500, 4096).code(MOVE, 1, true, 0, 500).faults(2);
        Bench second = bench("the second indirection above");
        second.mill.code(500, END, 0, true, 0, 4096);
        second.code(MOVE_E, 1, true, 0, 500).faults(2);
    }

    private static void seeksEForEveryOp() {
        bench("400 with no E").put(1, 5).code(0400, 1, true, 0, 4096).faults(2);
        bench("450 with no E").put(1, 5).code(0450, 1, true, 0, 4096).faults(2);
        bench("263 with no E").put(1, 5).code(0263, 1, true, 0, 4096).faults(2);
        bench("300 with no E").code(0300, 1, true, 0, 4096).faults(2);
        bench("an unknown op with no E").code(0777, 1, true, 0, 4096).faults(2);
        bench("0 with no E").code(END, 1, true, 0, 4096).faults(2);
    }
}
