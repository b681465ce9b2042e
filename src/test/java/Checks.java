/** Counts the answers of one test and tells those that are not due. */
final class Checks {
    static final long WORD_MASK = 0xFFFFFFFFFL;
    static final long LOWEST = 0x800000000L;
    static final long HIGHEST = 0x7FFFFFFFFL;
    static final int HALF_MASK = 0x3FFFF;

    private int looked = 0;
    private int wrong = 0;

    void same(String what, long got, long due) {
        looked++;
        if (got != due) {
            wrong++;
            System.out.println(what + " answered " + got + ", due is " + due);
        }
    }

    void refused(String what, Runnable call) {
        looked++;
        String got = thrownBy(call);
        if (!got.equals("java.lang.IllegalArgumentException")) {
            wrong++;
            System.out.println(what + " threw " + got + ", due is IllegalArgumentException");
        }
    }

    void end() {
        System.out.println(looked + " answers, " + wrong + " not due");
        if (wrong != 0 || looked == 0) {
            System.exit(1);
        }
    }

    static String thrownBy(Runnable call) {
        try {
            call.run();
            return "nothing";
        } catch (RuntimeException e) {
            return e.getClass().getName();
        }
    }

    /** A word from a number with a sign. */
    static long w(long number) {
        return number & WORD_MASK;
    }

    /** A word from its halves. */
    static long halves(long left, long right) {
        return ((left & HALF_MASK) << 18) | (right & HALF_MASK);
    }
}
