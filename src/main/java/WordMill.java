/** A machine with words of 36 bits; its registers are the first sixteen words of its memory. */
public final class WordMill {
    private static final int PLACES = 4096;
    private static final int PLACE_MASK = 4095;
    private static final int REGISTER_MASK = 15;
    private static final int MOST_INSTRUCTIONS = 20000;
    private static final int MOST_INDIRECTIONS = 20;
    private static final int COUNT_MASK = 0x7FFFFFFF;

    private static final int WORD_BITS = 36;
    private static final int BITS_BESIDE_WORD = 28;
    private static final long WORD_MASK = 0xFFFFFFFFFL;
    private static final int HALF_BITS = 18;
    private static final int BITS_BESIDE_HALF = 14;
    private static final int HALF_MASK = 0x3FFFF;
    private static final long LEFT_MASK = 0xFFFFC0000L;
    private static final long LOWEST_NUMBER = -0x800000000L;

    private static final int OP_SHIFT = 27;
    private static final int OP_MASK = 511;
    private static final int AC_SHIFT = 23;
    private static final int INDIRECT_SHIFT = 22;
    private static final int X_SHIFT = 18;

    private static final int ENDED = -1;
    private static final int DONE = 0;
    private static final int FAULT_OP = 1;
    private static final int FAULT_PLACE = 2;
    private static final int FAULT_DIVISION = 3;
    private static final int NO_E = -1;

    private final long[] memory;
    private int pc;
    /** Where PC goes once the instruction is done: a fault leaves PC alone, so this is kept apart. */
    private int next;
    private int doneInAll;
    private int doneInRun;

    public WordMill() {
        memory = new long[PLACES];
        pc = 0;
        next = 0;
        doneInAll = 0;
        doneInRun = 0;
    }

    public void put(int place, long w) throws IllegalArgumentException {
        refuseOutside(place, PLACE_MASK);
        store(place, w);
    }

    public long word(int place) throws IllegalArgumentException {
        refuseOutside(place, PLACE_MASK);
        return memory[place];
    }

    public long code(int place, int op, int ac, boolean indirect, int x, int y) throws IllegalArgumentException {
        refuseOutside(place, PLACE_MASK);
        refuseOutside(op, OP_MASK);
        refuseOutside(ac, REGISTER_MASK);
        refuseOutside(x, REGISTER_MASK);
        long instruction = ((long) op << OP_SHIFT)
                | ((long) ac << AC_SHIFT)
                | ((indirect ? 1L : 0L) << INDIRECT_SHIFT)
                | ((long) x << X_SHIFT)
                | (y & HALF_MASK);
        store(place, instruction);
        return instruction;
    }

    public void go(int place) throws IllegalArgumentException {
        refuseOutside(place, PLACE_MASK);
        pc = place;
    }

    public int run(int n) throws IllegalArgumentException {
        refuseOutside(n, MOST_INSTRUCTIONS);
        doneInRun = 0;
        for (int i = 0; i < n; i++) {
            int outcome = step();
            if (outcome > DONE) {
                return outcome;
            }
            pc = next;
            doneInRun++;
            doneInAll = (doneInAll + 1) & COUNT_MASK;
            if (outcome == ENDED) {
                return ENDED;
            }
        }
        return DONE;
    }

    public int count(int what) {
        switch (what) {
            case 0:
                return pc;
            case 1:
                return doneInAll;
            case 2:
                return doneInRun;
            default:
                return -1;
        }
    }

    private static void refuseOutside(int number, int highest) {
        if (number < 0 || number > highest) {
            throw new IllegalArgumentException();
        }
    }

    private int step() {
        long instruction = memory[pc];
        // Every instruction has an E, so E is sought before the op is looked at, known or not.
        int e = effective(instruction);
        if (e == NO_E) {
            return FAULT_PLACE;
        }
        next = (pc + 1) & PLACE_MASK;
        int op = (int) (instruction >> OP_SHIFT) & OP_MASK;
        int ac = (int) (instruction >> AC_SHIFT) & REGISTER_MASK;
        return perform(op, ac, e);
    }

    private int effective(long instruction) {
        long source = instruction;
        int e = indexed(source);
        for (int times = 0; times < MOST_INDIRECTIONS && isIndirect(source); times++) {
            if (e >= PLACES) {
                return NO_E;
            }
            source = memory[e];
            e = indexed(source);
        }
        return e;
    }

    private int indexed(long source) {
        int x = (int) (source >> X_SHIFT) & REGISTER_MASK;
        int y = rightHalf(source);
        return x == 0 ? y : (y + rightHalf(memory[x])) & HALF_MASK;
    }

    private static boolean isIndirect(long source) {
        return ((source >> INDIRECT_SHIFT) & 1L) == 1L;
    }

    private int perform(int op, int ac, int e) {
        switch (op) {
            case 0:
                return ENDED;
            case 0201: case 0221: case 0242: case 0271: case 0275:
            case 0400: case 0405: case 0431: case 0435: case 0450:
                return combine(op, ac, e);
            case 0231:
                return divide(ac, e);
            case 0254:
                return jump(e);
            case 0260:
                return pushNextPlace(ac, e);
            case 0263:
                return popToPc(ac);
            case 0200: case 0202: case 0204: case 0210: case 0214: case 0220: case 0230:
            case 0250: case 0261: case 0262: case 0264: case 0270: case 0274:
            case 0402: case 0404: case 0430: case 0434:
            case 0500: case 0504: case 0540: case 0544: case 0550: case 0554:
                return e >= PLACES ? FAULT_PLACE : performOnMemory(op, ac, e);
            default:
                return isTest(op) ? test(op, ac, e) : FAULT_OP;
        }
    }

    private int performOnMemory(int op, int ac, int e) {
        switch (op) {
            case 0202:
                store(e, memory[ac]);
                return DONE;
            case 0230:
                return divide(ac, memory[e]);
            case 0250:
                return exchange(ac, e);
            case 0261:
                return push(ac, memory[e]);
            case 0262:
                return popToMemory(ac, e);
            case 0264:
                return leaveNextPlaceAndJump(e);
            case 0402:
                store(e, 0L);
                return DONE;
            default:
                return combine(op, ac, memory[e]);
        }
    }

    private int combine(int op, int ac, long operand) {
        long c = memory[ac];
        store(ac, isOfHalves(op) ? ofHalves(op, c, operand) : ofWords(op, c, operand));
        return DONE;
    }

    private static boolean isOfHalves(int op) {
        return op >= 0500;
    }

    private static long ofWords(int op, long c, long operand) {
        switch (op) {
            case 0204:
                return (operand << HALF_BITS) | leftHalf(operand);
            case 0210:
                return -operand;
            case 0214:
                return Math.abs(number(operand));
            case 0220: case 0221:
                return c * operand;
            case 0242:
                return shifted(c, (int) operand);
            case 0270: case 0271:
                return c + operand;
            case 0274: case 0275:
                return c - operand;
            case 0400:
                return 0L;
            case 0404: case 0405:
                return c & operand;
            case 0430: case 0431:
                return c ^ operand;
            case 0434: case 0435:
                return c | operand;
            case 0450:
                return ~c;
            default:
                return operand;
        }
    }

    private static long ofHalves(int op, long c, long operand) {
        switch (op) {
            case 0500:
                return (operand & LEFT_MASK) | rightHalf(c);
            case 0504:
                return ((long) rightHalf(operand) << HALF_BITS) | rightHalf(c);
            case 0540:
                return (c & LEFT_MASK) | rightHalf(operand);
            case 0544:
                return (c & LEFT_MASK) | leftHalf(operand);
            case 0550:
                return rightHalf(operand);
            default:
                return leftHalf(operand);
        }
    }

    private static long shifted(long c, int e) {
        int distance = (e << BITS_BESIDE_HALF) >> BITS_BESIDE_HALF;
        // Java takes a shift's distance modulo 64, so far shifts are settled here.
        if (distance >= WORD_BITS || distance <= -WORD_BITS) {
            return 0L;
        }
        return distance >= 0 ? c << distance : c >> -distance;
    }

    private int divide(int ac, long operand) {
        long dividend = number(memory[ac]);
        long divisor = number(operand);
        // The lowest number has no contrary within 36 bits: its quotient by -1 is none.
        if (divisor == 0L || (divisor == -1L && dividend == LOWEST_NUMBER)) {
            return FAULT_DIVISION;
        }
        store(ac, dividend / divisor);
        store((ac + 1) & REGISTER_MASK, dividend % divisor);
        return DONE;
    }

    private int exchange(int ac, int e) {
        long c = memory[ac];
        store(ac, memory[e]);
        store(e, c);
        return DONE;
    }

    private int jump(int e) {
        next = e & PLACE_MASK;
        return DONE;
    }

    private int leaveNextPlaceAndJump(int e) {
        store(e, next);
        return jump(e + 1);
    }

    private int pushNextPlace(int ac, int e) {
        int outcome = push(ac, next);
        return outcome == DONE ? jump(e) : outcome;
    }

    private int push(int ac, long pushed) {
        int top = (rightHalf(memory[ac]) + 1) & HALF_MASK;
        if (top >= PLACES) {
            return FAULT_PLACE;
        }
        moveTop(ac, 1);
        store(top, pushed);
        return DONE;
    }

    private int popToMemory(int ac, int e) {
        int top = rightHalf(memory[ac]);
        if (top >= PLACES) {
            return FAULT_PLACE;
        }
        store(e, memory[top]);
        // E may be C itself: then what was popped is lowered, as the document's order has it.
        moveTop(ac, -1);
        return DONE;
    }

    private int popToPc(int ac) {
        int top = rightHalf(memory[ac]);
        if (top >= PLACES) {
            return FAULT_PLACE;
        }
        jump(rightHalf(memory[top]));
        moveTop(ac, -1);
        return DONE;
    }

    private void moveTop(int ac, int change) {
        long c = memory[ac];
        store(ac, (c & LEFT_MASK) | ((rightHalf(c) + change) & HALF_MASK));
    }

    private static boolean isTest(int op) {
        return op >= 0300 && op <= 0377;
    }

    private int test(int op, int ac, int e) {
        boolean ofMemory = (op & 010) != 0;
        if (ofMemory && e >= PLACES) {
            return FAULT_PLACE;
        }
        int condition = op & 7;
        switch (op & 0770) {
            case 0300:
                return skipIf(holds(condition, memory[ac], e));
            case 0310:
                return skipIf(holds(condition, memory[ac], memory[e]));
            case 0320:
                return changeAndJump(condition, ac, e, 0);
            case 0330:
                return changeAndSkip(condition, ac, e, 0);
            case 0340:
                return changeAndJump(condition, ac, e, 1);
            case 0350:
                return changeAndSkip(condition, ac, e, 1);
            case 0360:
                return changeAndJump(condition, ac, e, -1);
            default:
                return changeAndSkip(condition, ac, e, -1);
        }
    }

    private int changeAndJump(int condition, int ac, int e, int change) {
        store(ac, memory[ac] + change);
        return holds(condition, memory[ac], 0L) ? jump(e) : DONE;
    }

    private int changeAndSkip(int condition, int ac, int e, int change) {
        store(e, memory[e] + change);
        long m = memory[e];
        if (ac != 0) {
            store(ac, m);
        }
        return skipIf(holds(condition, m, 0L));
    }

    private int skipIf(boolean wanted) {
        return wanted ? jump(next + 1) : DONE;
    }

    /** The bits of a condition: 1 for below, 2 for same, 4 for the contrary of these. */
    private static boolean holds(int condition, long left, long right) {
        long a = number(left);
        long b = number(right);
        boolean met = ((condition & 1) != 0 && a < b) || ((condition & 2) != 0 && a == b);
        return met != ((condition & 4) != 0);
    }

    private static long number(long w) {
        return (w << BITS_BESIDE_WORD) >> BITS_BESIDE_WORD;
    }

    private static int rightHalf(long w) {
        return (int) w & HALF_MASK;
    }

    private static int leftHalf(long w) {
        return (int) (w >> HALF_BITS) & HALF_MASK;
    }

    private void store(int place, long w) {
        memory[place] = w & WORD_MASK;
    }
}
