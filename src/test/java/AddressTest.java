/** "Terms", of an instruction and its E, and of promise 8 the twentieth indirection. */
public final class AddressTest {
    private static final Checks CHECKS = new Checks();
    private static final int MOVE = 0200;
    private static final int MOVE_E = 0201;
    private static final int STORE = 0202;
    private static final int AC = Bench.AC;

    public static void main(String[] args) {
        addsNoIndexIfXIsZero();
        addsTheIndex();
        addsTheRightHalfOnly();
        cutsTo18Bits();
        followsIndirection();
        followsAtMostTwentyTimes();
        standsAtTheTwentieth();
        needsAPlaceForM();
        needsAPlaceForAnIndirection();
        needsNoPlaceForE();
        seeksEForEveryOp();
        CHECKS.end();
    }

    private static Bench bench(String name, int op) {
        return Bench.named(CHECKS, name, op);
    }

    /** "if X isn't 0": register 0 is no index. */
    private static void addsNoIndexIfXIsZero() {
        bench("X 0", MOVE_E).put(0, 9).x(0).y(5).goesOn(AC, 5);
        bench("X 0 at the second step", MOVE_E).put(0, 9).parts(500, false, 0, 5).indirect().y(500).goesOn(AC, 5);
    }

    private static void addsTheIndex() {
        for (int register = 1; register < 16; register++) {
            bench("X " + register, MOVE_E).put(register, 9).x(register).y(5).goesOn(AC, 14);
        }
        bench("Y 0", MOVE_E).put(2, 9).x(2).y(0).goesOn(AC, 9);
        bench("index 0", MOVE_E).put(2, 0).x(2).y(5).goesOn(AC, 5);
        bench("the index is C, too", MOVE_E).put(AC, 9).x(AC).y(5).goesOn(AC, 14);
    }

    /** "the right half of REGISTER X". */
    private static void addsTheRightHalfOnly() {
        bench("left half full", MOVE_E).put(2, Checks.halves(0777777, 9)).x(2).y(5).goesOn(AC, 14);
        bench("right half 0", MOVE_E).put(2, Checks.halves(1, 0)).x(2).y(5).goesOn(AC, 5);
        bench("an index below 0", MOVE).put(2, Checks.w(-3)).put(997, 4).x(2).y(1000).goesOn(AC, 4);
    }

    /** "cut to 18 bits". */
    private static void cutsTo18Bits() {
        bench("777776", MOVE_E).put(2, 0777775).x(2).y(1).goesOn(AC, 0777776);
        bench("777777", MOVE_E).put(2, 0777776).x(2).y(1).goesOn(AC, 0777777);
        bench("1000000", MOVE_E).put(2, 0777777).x(2).y(1).goesOn(AC, 0);
        bench("1000001", MOVE_E).put(2, 0777777).x(2).y(2).goesOn(AC, 1);
        bench("the highest of both", MOVE_E).put(2, 0777777).x(2).y(0777777).goesOn(AC, 0777776);
        bench("M at a cut place", MOVE).put(2, 0777777).put(1000, 4).x(2).y(1001).goesOn(AC, 4);
        bench("an indirection at a cut place", MOVE_E).put(2, 0777777).put(500, 4).indirect().x(2).y(501).goesOn(AC, 4);
        bench("cut behind an indirection", MOVE_E).put(2, 0777777).parts(500, false, 2, 3).indirect().y(500)
                .goesOn(AC, 2);
    }

    /** "while I is 1, the WORD at E has the next I, X, Y". */
    private static void followsIndirection() {
        bench("I 0", MOVE_E).put(500, 77).y(500).goesOn(AC, 500);
        bench("I 1", MOVE_E).put(500, 77).indirect().y(500).goesOn(AC, 77);
        bench("the index before the indirection", MOVE_E).put(2, 3).put(503, 77).indirect().x(2).y(500).goesOn(AC, 77);
        bench("the next X", MOVE_E).put(2, 3).parts(500, false, 2, 70).indirect().y(500).goesOn(AC, 73);
        bench("the next I", MOVE_E).parts(500, true, 0, 600).put(600, 88).indirect().y(500).goesOn(AC, 88);
        bench("the next I, X and Y", MOVE_E).put(2, 3).parts(500, true, 2, 600).put(603, 88).indirect().y(500)
                .goesOn(AC, 88);
        bench("X of both", MOVE_E).put(2, 3).put(4, 5).parts(503, false, 4, 70).indirect().x(2).y(500).goesOn(AC, 75);
        bench("through a register", MOVE_E).put(4, 88).indirect().y(4).goesOn(AC, 88);
        bench("through itself", MOVE_E).indirect().y(Bench.AT).goesOn(AC, Bench.AT);
        bench("M behind an indirection", MOVE).put(500, 600).put(600, 88).indirect().y(500).goesOn(AC, 88);
        bench("a store behind an indirection", STORE).put(500, 600).put(AC, 88).indirect().y(500).goesOn(600, 88);
    }

    /** Words from 700 on, each indirect to the next one; the last has these parts. */
    private static Bench chain(int op, int words, boolean lastIsIndirect, int lastX, int lastY) {
        String name = "a chain of " + words + ", then I " + lastIsIndirect + ", X " + lastX + ", Y " + lastY;
        Bench bench = bench(name, op).indirect().y(700);
        for (int i = 1; i < words; i++) {
            bench.parts(699 + i, true, 0, 700 + i);
        }
        return bench.parts(699 + words, lastIsIndirect, lastX, lastY);
    }

    /** "at most 20 times; then E stands": 19, 20, and 21 that would be needed. */
    private static void followsAtMostTwentyTimes() {
        chain(MOVE_E, 18, false, 0, 900).goesOn(AC, 900);
        chain(MOVE_E, 19, false, 0, 900).goesOn(AC, 900);
        chain(MOVE_E, 20, false, 0, 900).goesOn(AC, 900);
        chain(MOVE_E, 21, false, 0, 900).goesOn(AC, 720);
        chain(MOVE_E, 22, false, 0, 900).goesOn(AC, 720);
        chain(MOVE_E, 40, false, 0, 900).goesOn(AC, 720);
        bench("a word that is indirect to itself", MOVE_E).parts(700, true, 0, 700).indirect().y(700).goesOn(AC, 700);
        bench("two that are so to one another", MOVE_E).parts(700, true, 0, 701).parts(701, true, 0, 700)
                .indirect().y(700).goesOn(AC, 700);
        bench("a third of three in a ring", MOVE_E).parts(700, true, 0, 701).parts(701, true, 0, 702)
                .parts(702, true, 0, 700).indirect().y(700).goesOn(AC, 702);
        chain(MOVE, 21, false, 0, 900).put(900, 5).goesOn(AC, Checks.halves(0777740, 900));
    }

    /** "At the twentieth indirection E stands as it is; I is not looked at any more." */
    private static void standsAtTheTwentieth() {
        chain(MOVE_E, 18, true, 0, 900).put(900, 950).goesOn(AC, 950);
        chain(MOVE_E, 19, true, 0, 900).put(900, 950).goesOn(AC, 950);
        chain(MOVE_E, 20, true, 0, 900).put(900, 950).goesOn(AC, 900);
        chain(MOVE_E, 20, true, 2, 900).put(2, 7).put(907, 950).goesOn(AC, 907);
        chain(MOVE_E, 20, false, 2, 900).put(2, 7).goesOn(AC, 907);
        chain(MOVE_E, 20, true, 0, 4096).goesOn(AC, 4096);
        chain(MOVE_E, 20, true, 0, 0777777).goesOn(AC, 0777777);
        chain(MOVE_E, 19, true, 0, 4095).put(4095, 950).goesOn(AC, 950);
        chain(MOVE_E, 19, true, 0, 4096).faults(2);
        chain(MOVE, 20, true, 0, 900).put(900, 950).goesOn(AC, 950);
        chain(MOVE, 20, true, 0, 4096).faults(2);
    }

    /** "A WORD's place above 4095: FAULT 2", of M. */
    private static void needsAPlaceForM() {
        bench("M at 0", MOVE).put(0, 8).y(0).goesOn(AC, 8);
        bench("M at 4094", MOVE).put(4094, 8).y(4094).goesOn(AC, 8);
        bench("M at 4095", MOVE).put(4095, 8).y(4095).goesOn(AC, 8);
        bench("M at 4096", MOVE).y(4096).faults(2);
        bench("M at 4097", MOVE).y(4097).faults(2);
        bench("M at 8192", MOVE).y(8192).faults(2);
        bench("M at 777777", MOVE).y(0777777).faults(2);
        bench("M at 4095 by the index", MOVE).put(2, 1).put(4095, 8).x(2).y(4094).goesOn(AC, 8);
        bench("M at 4096 by the index", MOVE).put(2, 1).x(2).y(4095).faults(2);
        bench("M at 4095 by an indirection", MOVE).put(500, 4095).put(4095, 8).indirect().y(500).goesOn(AC, 8);
        bench("M at 4096 by an indirection", MOVE).put(500, 4096).indirect().y(500).faults(2);
        bench("a store at 4095", STORE).put(AC, 8).y(4095).goesOn(4095, 8);
        bench("a store at 4096", STORE).put(AC, 8).y(4096).faults(2);
    }

    /** "A WORD's place above 4095: FAULT 2", of a word that an indirection reads. */
    private static void needsAPlaceForAnIndirection() {
        bench("through 0", MOVE_E).put(0, 8).indirect().y(0).goesOn(AC, 8);
        bench("through 4095", MOVE_E).put(4095, 8).indirect().y(4095).goesOn(AC, 8);
        bench("through 4096", MOVE_E).indirect().y(4096).faults(2);
        bench("through 4097", MOVE_E).indirect().y(4097).faults(2);
        bench("through 777777", MOVE_E).indirect().y(0777777).faults(2);
        bench("through 4095 by the index", MOVE_E).put(2, 1).put(4095, 8).indirect().x(2).y(4094).goesOn(AC, 8);
        bench("through 4096 by the index", MOVE_E).put(2, 1).indirect().x(2).y(4095).faults(2);
        bench("through 4095 as the second", MOVE_E).parts(500, true, 0, 4095).put(4095, 8).indirect().y(500)
                .goesOn(AC, 8);
        bench("through 4096 as the second", MOVE_E).parts(500, true, 0, 4096).indirect().y(500).faults(2);
    }

    /** E itself is no word's place. */
    private static void needsNoPlaceForE() {
        bench("E 4095", MOVE_E).y(4095).goesOn(AC, 4095);
        bench("E 4096", MOVE_E).y(4096).goesOn(AC, 4096);
        bench("E 777777 by an indirection", MOVE_E).put(500, 0777777).indirect().y(500).goesOn(AC, 0777777);
    }

    /** An op that needs no M is looked at behind E, too. */
    private static void seeksEForEveryOp() {
        int[] ops = {0, 0201, 0221, 0231, 0242, 0254, 0260, 0263, 0271, 0275, 0300, 0320, 0340, 0360, 0400, 0405, 0431,
            0435, 0450, 0777};
        for (int op : ops) {
            bench("through 4096", op).put(AC, 600).indirect().y(4096).faults(2);
        }
    }
}
