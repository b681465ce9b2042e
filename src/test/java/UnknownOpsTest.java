import java.util.Set;

/** Every op that the document does not name has fault 1, wherever its E lies. */
public final class UnknownOpsTest {
    private static final Set<Integer> KNOWN = Set.of(0,
            0200, 0201, 0202, 0204, 0210, 0214, 0220, 0221, 0230, 0231, 0242, 0250, 0254,
            0260, 0261, 0262, 0263, 0264, 0270, 0271, 0274, 0275,
            0400, 0402, 0404, 0405, 0430, 0431, 0434, 0435, 0450,
            0500, 0504, 0540, 0544, 0550, 0554);

    public static void main(String[] args) {
        Checks checks = new Checks();
        int unknown = 0;
        for (int op = 0; op < 512; op++) {
            if (!KNOWN.contains(op) && (op < 0300 || op > 0377)) {
                unknown++;
                Bench.of(checks, op, 5, 7).faults(1);
                Bench.immediate(checks, op, 5, -1).faults(1);
            }
        }
        checks.same("unknown ops", unknown, 512 - 64 - KNOWN.size());
        checks.end();
    }
}
