import java.util.Set;

/** Which ops there are. */
public final class OpsTest {
    private static final Checks CHECKS = new Checks();
    private static final Set<Integer> KNOWN = Set.of(0,
            0200, 0201, 0202, 0204, 0210, 0214, 0220, 0221, 0230, 0231, 0242, 0250, 0254,
            0260, 0261, 0262, 0263, 0264, 0270, 0271, 0274, 0275,
            0400, 0402, 0404, 0405, 0430, 0431, 0434, 0435, 0450,
            0500, 0504, 0540, 0544, 0550, 0554);

    public static void main(String[] args) {
        othersFault();
        knownOnesDoNot();
        zeroEnds();
        CHECKS.end();
    }

    static boolean isKnown(int op) {
        return KNOWN.contains(op) || (op >= 0300 && op <= 0377);
    }

    /** "Others: FAULT 1", wherever E lies and whatever AC is. */
    private static void othersFault() {
        int others = 0;
        for (int op = 0; op < 512; op++) {
            if (!isKnown(op)) {
                others++;
                Bench.of(CHECKS, op, 5, 7).faults(1);
                Bench.immediate(CHECKS, op, 5, -1).faults(1);
                Bench.of(CHECKS, op, 5, 7).ac(0).x(15).faults(1);
            }
        }
        CHECKS.same("other ops", others, 512 - 64 - KNOWN.size());
    }

    private static void knownOnesDoNot() {
        for (int op = 1; op < 512; op++) {
            if (isKnown(op)) {
                WordMill mill = new WordMill();
                mill.put(3, 5);
                mill.put(1000, 7);
                mill.code(100, op, 3, false, 0, 1000);
                mill.go(100);
                CHECKS.same("run(1) of op " + Integer.toOctalString(op), mill.run(1), 0);
            }
        }
    }

    /** "0 ends a run", whatever its other parts are; 1 and 777 do not. */
    private static void zeroEnds() {
        Bench.of(CHECKS, 0, 5, 7).ends();
        Bench.named(CHECKS, "the word 0", 0).ac(0).y(0).ends();
        Bench.immediate(CHECKS, 0, 5, -1).ac(15).x(15).ends();
        Bench.immediate(CHECKS, 0, 5, 4096).ends();
        Bench.of(CHECKS, 0, 5, 7).indirect().ends();
        Bench.of(CHECKS, 1, 5, 7).faults(1);
        Bench.of(CHECKS, 0777, 5, 7).faults(1);
    }
}
