/** "Else PC is the next place, or what's said (all cut to 12 bits)." */
public final class PcTest {
    private static final Checks CHECKS = new Checks();
    private static final int AC = Bench.AC;
    private static final int NOP = 0300;
    private static final int SKIP = 0304;

    public static void main(String[] args) {
        goesToTheNextPlace();
        skipsTheNextPlace();
        jumpsToAPlace();
        cutsConditionalJumps();
        cutsThePushedPlace();
        cutsThePoppedPlace();
        cutsThePlaceBehindE();
        cutsTheLeftPlace();
        CHECKS.end();
    }

    private static void goesToTheNextPlace() {
        Bench.immediate(CHECKS, NOP, 5, 0).at(0).goesTo(1);
        Bench.immediate(CHECKS, NOP, 5, 0).at(4093).goesTo(4094);
        Bench.immediate(CHECKS, NOP, 5, 0).at(4094).goesTo(4095);
        Bench.immediate(CHECKS, NOP, 5, 0).at(4095).goesTo(0);
        Bench.immediate(CHECKS, 0, 5, 0).at(4094).ends();
        WordMill mill = new WordMill();
        mill.go(4095);
        CHECKS.same("run(1) of an end at 4095", mill.run(1), -1);
        CHECKS.same("count(0) behind an end at 4095", mill.count(0), 0);
    }

    private static void skipsTheNextPlace() {
        int[] skips = {SKIP, 0314, 0334, 0354, 0374};
        for (int op : skips) {
            skipsFrom(op, 0, 2);
            skipsFrom(op, 4092, 4094);
            skipsFrom(op, 4093, 4095);
            skipsFrom(op, 4094, 0);
            skipsFrom(op, 4095, 1);
        }
    }

    /** M is C, so that there is a word to look at; 354 and 374 change it. */
    private static void skipsFrom(int op, int place, int due) {
        int change = op == 0354 ? 1 : op == 0374 ? -1 : 0;
        Bench.immediate(CHECKS, op, 5, AC).at(place).goesTo(due, AC, 5 + change);
    }

    private static void jumpsToAPlace() {
        Bench.immediate(CHECKS, 0254, 5, 0).goesTo(0);
        Bench.immediate(CHECKS, 0254, 5, 1).goesTo(1);
        Bench.immediate(CHECKS, 0254, 5, 4094).goesTo(4094);
        Bench.immediate(CHECKS, 0254, 5, 4095).goesTo(4095);
        Bench.immediate(CHECKS, 0254, 5, 4096).goesTo(0);
        Bench.immediate(CHECKS, 0254, 5, 4097).goesTo(1);
        Bench.immediate(CHECKS, 0254, 5, 8191).goesTo(4095);
        Bench.immediate(CHECKS, 0254, 5, 8192).goesTo(0);
        Bench.immediate(CHECKS, 0254, 5, 0777776).goesTo(4094);
        Bench.immediate(CHECKS, 0254, 5, 0777777).goesTo(4095);
        Bench.immediate(CHECKS, 0254, 5, Bench.AT).goesTo(Bench.AT);
        Bench.immediate(CHECKS, 0254, 5, 7).at(4095).goesTo(7);
    }

    private static void cutsConditionalJumps() {
        int[] ys = {4095, 4096, 4097, 0777777};
        int[] dues = {4095, 0, 1, 4095};
        for (int i = 0; i < ys.length; i++) {
            Bench.immediate(CHECKS, 0324, 5, ys[i]).goesTo(dues[i]);
            Bench.immediate(CHECKS, 0344, 5, ys[i]).goesTo(dues[i], AC, 6);
            Bench.immediate(CHECKS, 0364, 5, ys[i]).goesTo(dues[i], AC, 4);
            Bench.immediate(CHECKS, 0320, 5, ys[i]).goesOn();
            Bench.immediate(CHECKS, 0320, 5, ys[i]).at(4095).goesTo(0);
        }
    }

    /** 260: E is cut, and so is the next place that is pushed. */
    private static void cutsThePushedPlace() {
        Bench.immediate(CHECKS, 0260, 600, 4095).goesTo(4095, AC, 601, 601, 101);
        Bench.immediate(CHECKS, 0260, 600, 4096).goesTo(0, AC, 601, 601, 101);
        Bench.immediate(CHECKS, 0260, 600, 4097).goesTo(1, AC, 601, 601, 101);
        Bench.immediate(CHECKS, 0260, 600, 7).at(4093).goesTo(7, AC, 601, 601, 4094);
        Bench.immediate(CHECKS, 0260, 600, 7).at(4094).goesTo(7, AC, 601, 601, 4095);
        Bench.immediate(CHECKS, 0260, 600, 7).at(4095).goesTo(7, AC, 601, 601, 0);
    }

    /** 263: the right half of the word there is cut. */
    private static void cutsThePoppedPlace() {
        long[] words = {0, 4095, 4096, 4097, 0777777, Checks.halves(1, 0), Checks.halves(0777777, 4096)};
        int[] dues = {0, 4095, 0, 1, 4095, 0, 0};
        for (int i = 0; i < words.length; i++) {
            Bench.immediate(CHECKS, 0263, 600, 0).put(600, words[i]).goesTo(dues[i], AC, 599);
        }
    }

    /** 264: E + 1 is cut. */
    private static void cutsThePlaceBehindE() {
        Bench.immediate(CHECKS, 0264, 5, 4093).goesTo(4094, 4093, 101);
        Bench.immediate(CHECKS, 0264, 5, 4094).goesTo(4095, 4094, 101);
        Bench.immediate(CHECKS, 0264, 5, 4095).goesTo(0, 4095, 101);
    }

    /** 264: the next place that M becomes is cut. */
    private static void cutsTheLeftPlace() {
        Bench.immediate(CHECKS, 0264, 5, 600).at(4094).goesTo(601, 600, 4095);
        Bench.immediate(CHECKS, 0264, 5, 600).at(4095).goesTo(601, 600, 0);
    }
}
