import java.util.Set;
import java.util.TreeSet;

/**
 * Each listed op as the fifth instruction of a run: those before it make C, M and the index, those behind it show where
 * it went on. Each is run with its E found in five ways, with and without X and I.
 */
public final class OpsInRunsTest {
    private static final Checks CHECKS = new Checks();
    private static final Set<Integer> SEEN = new TreeSet<>();
    private static final long A = Checks.halves(0123456, 0654321);
    private static final long B = Checks.halves(0707070, 0111222);
    private static final long ONES = Checks.WORD_MASK;

    private static final int START = 100;
    private static final int OP_AT = 104;
    private static final int X = 2;
    private static final int INDEX = 40;
    private static final int C = 3;
    private static final int REST = 4;
    private static final int NEXT_DONE = 6;
    private static final int BEHIND_NEXT_DONE = 7;
    private static final int TARGET_DONE = 8;
    private static final int TOP = 500;
    private static final int M = 600;
    private static final int PLACE_OF_M = 700;
    private static final int PLACE_OF_M_WITH_X = 701;
    private static final int[] LOOKED_AT = {0, 1, X, C, REST, 5, NEXT_DONE, BEHIND_NEXT_DONE, TARGET_DONE, 9,
        TOP - 1, TOP, TOP + 1, M, M + 1};

    /** The pile's top holds the target's place, for 262 and 263. */
    private static final long ON_TOP = Checks.halves(7, M);
    private static final long PILE = Checks.halves(5, TOP);
    /** What stands at M where it is a jump's target: 1 more in register 8. */
    private static final long TARGET = (0271L << 27) + ((long) TARGET_DONE << 23) + 1;

    private enum Way { PLAIN, WITH_X, WITH_I, X_THEN_I, I_THEN_X }

    /** Where the run goes from the op: what the registers 6, 7, 8 come to, where PC ends, how many are done. */
    private enum Then {
        ON(1, 1, 0, 108, 8), SKIPS(0, 1, 0, 108, 7), JUMPS(0, 0, 2, 603, 8), JUMPS_BEHIND(0, 0, 1, 603, 7),
        ENDS(0, 0, 0, 105, 5);

        final int next;
        final int behindNext;
        final int target;
        final int pc;
        final int done;

        Then(int next, int behindNext, int target, int pc, int done) {
            this.next = next;
            this.behindNext = behindNext;
            this.target = target;
            this.pc = pc;
            this.done = done;
        }
    }

    /** The eight conditions, in the document's order, by the signs of a comparison that meet them. */
    private static final String[] MET_BY = {"", "<", "=", "<=", "<=>", "=>", "<>", ">"};

    public static void main(String[] args) {
        moves();
        reckons();
        jumps();
        usesThePile();
        joinsBits();
        movesHalves();
        ends();
        for (int condition = 0; condition < 8; condition++) {
            for (int side = -1; side <= 1; side++) {
                compares(condition, side);
                jumpsByC(condition, side);
                skipsByM(condition, side);
            }
        }
        everyListedOpIsSeen();
        CHECKS.end();
    }

    private static void moves() {
        on(0200, A, B, C, B);
        on(0201, A, B, C, M);
        on(0202, A, B, M, A);
        on(0204, A, B, C, Checks.halves(0111222, 0707070));
        on(0210, A, 7, C, w(-7));
        on(0214, A, w(-7), C, 7);
        on(0250, A, B, C, B, M, A);
        on(0400, A, B, C, 0);
        on(0402, A, B, M, 0);
    }

    private static void reckons() {
        on(0220, w(-6), 7, C, w(-42));
        on(0221, w(-6), B, C, w(-3600));
        on(0230, w(-45), 7, C, w(-6), REST, w(-3));
        on(0231, w(-1999), B, C, w(-3), REST, w(-199));
        withE(0242, 5, B, 3, Then.ON, C, 40);
        withE(0242, 40, B, -3, Then.ON, C, 5);
        on(0270, 5, w(-7), C, w(-2));
        on(0271, 5, B, C, 605);
        on(0274, 5, 7, C, w(-2));
        on(0275, 5, B, C, w(-595));
    }

    private static void jumps() {
        at(0254, A, TARGET, Then.JUMPS);
        at(0264, A, B, Then.JUMPS_BEHIND, M, OP_AT + 1);
    }

    private static void usesThePile() {
        at(0260, PILE, TARGET, Then.JUMPS, C, PILE + 1, TOP + 1, OP_AT + 1);
        on(0261, PILE, B, C, PILE + 1, TOP + 1, B);
        on(0262, PILE, B, C, PILE - 1, M, ON_TOP);
        at(0263, PILE, TARGET, Then.JUMPS, C, PILE - 1);
    }

    private static void joinsBits() {
        on(0404, 12, 10, C, 8);
        on(0405, ONES, B, C, 600);
        on(0430, 12, 10, C, 6);
        on(0431, ONES, B, C, ONES - 600);
        on(0434, 12, 10, C, 14);
        on(0435, 1024, B, C, 1624);
        on(0450, A, B, C, ONES - A);
    }

    private static void movesHalves() {
        on(0500, A, B, C, Checks.halves(0707070, 0654321));
        on(0504, A, B, C, Checks.halves(0111222, 0654321));
        on(0540, A, B, C, Checks.halves(0123456, 0111222));
        on(0544, A, B, C, Checks.halves(0123456, 0707070));
        on(0550, A, B, C, 0111222);
        on(0554, A, B, C, 0707070);
    }

    private static void ends() {
        at(0, A, B, Then.ENDS);
    }

    private static boolean isMet(int condition, int side) {
        return MET_BY[condition].indexOf("<=>".charAt(side + 1)) >= 0;
    }

    private static Then skips(int condition, int side) {
        return isMet(condition, side) ? Then.SKIPS : Then.ON;
    }

    private static Then toTarget(int condition, int side) {
        return isMet(condition, side) ? Then.JUMPS : Then.ON;
    }

    /** The side is how C lies beside E or M: -1 below, 1 above. */
    private static void compares(int condition, int side) {
        at(0300 + condition, M + side, B, skips(condition, side));
        at(0310 + condition, w(-5 + side), w(-5), skips(condition, side));
    }

    private static void jumpsByC(int condition, int side) {
        at(0320 + condition, w(side), TARGET, toTarget(condition, side));
        at(0340 + condition, w(side - 1), TARGET, toTarget(condition, side), C, w(side));
        at(0360 + condition, w(side + 1), TARGET, toTarget(condition, side), C, w(side));
    }

    private static void skipsByM(int condition, int side) {
        at(0330 + condition, A, w(side), skips(condition, side), C, w(side));
        at(0350 + condition, A, w(side - 1), skips(condition, side), C, w(side), M, w(side));
        at(0370 + condition, A, w(side + 1), skips(condition, side), C, w(side), M, w(side));
    }

    private static void everyListedOpIsSeen() {
        for (int op = 0; op < 512; op++) {
            CHECKS.same("op " + Integer.toOctalString(op) + " is seen", SEEN.contains(op) ? 1 : 0,
                    OpsTest.isKnown(op) ? 1 : 0);
        }
    }

    private static long w(long number) {
        return Checks.w(number);
    }

    private static void on(int op, long c, long m, long... changed) {
        at(op, c, m, Then.ON, changed);
    }

    private static void at(int op, long c, long m, Then then, long... changed) {
        withE(op, c, m, M, then, changed);
    }

    /** The op changes these words and no others that are looked at: a place, its word, and so on. */
    private static void withE(int op, long c, long m, int e, Then then, long... changed) {
        SEEN.add(op);
        long[] due = new long[Scene.PLACES];
        due[X] = INDEX;
        due[C] = c;
        due[5] = m;
        due[NEXT_DONE] = then.next;
        due[BEHIND_NEXT_DONE] = then.behindNext;
        due[TARGET_DONE] = then.target;
        due[TOP] = ON_TOP;
        due[M] = m;
        due[M + 1] = TARGET;
        for (int i = 0; i < changed.length; i += 2) {
            due[(int) changed[i]] = changed[i + 1];
        }
        for (Way way : Way.values()) {
            Story story = program(way, op, c, m, e).run(20, -1).counts(then.pc, then.done, then.done);
            for (int place : LOOKED_AT) {
                story.word(place, due[place]);
            }
        }
    }

    private static Story program(Way way, int op, long c, long m, int e) {
        String name = "op " + Integer.toOctalString(op) + " " + way + ", c=" + c + " m=" + m + " e=" + e;
        Story story = new Story(CHECKS, name).put(400, c).put(401, m).put(TOP, ON_TOP)
                .code(START, 0200, C, 400)
                .code(START + 1, 0200, 5, 401)
                .code(START + 2, 0202, 5, M)
                .code(START + 3, 0201, X, INDEX)
                .code(OP_AT + 1, 0271, NEXT_DONE, 1)
                .code(OP_AT + 2, 0271, BEHIND_NEXT_DONE, 1)
                .code(OP_AT + 3, 0, 0, 0)
                .put(M + 1, TARGET)
                .put(M + 2, 0)
                .put(PLACE_OF_M, e & Checks.HALF_MASK)
                .code(PLACE_OF_M_WITH_X, 0777, 15, false, X, e - INDEX);
        return addOp(story, way, op, e).go(START);
    }

    private static Story addOp(Story story, Way way, int op, int e) {
        switch (way) {
            case PLAIN:
                return story.code(OP_AT, op, C, e);
            case WITH_X:
                return story.code(OP_AT, op, C, false, X, e - INDEX);
            case WITH_I:
                return story.code(OP_AT, op, C, true, 0, PLACE_OF_M);
            case X_THEN_I:
                return story.code(OP_AT, op, C, true, X, PLACE_OF_M - INDEX);
            default:
                return story.code(OP_AT, op, C, true, 0, PLACE_OF_M_WITH_X);
        }
    }
}
