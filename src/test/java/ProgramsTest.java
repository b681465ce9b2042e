/** Programs as a user would write them: many ops together, run, looked at, changed and run again. */
public final class ProgramsTest {
    private static final Checks CHECKS = new Checks();

    public static void main(String[] args) {
        sumsARowByIndex();
        followsAListByIndirection();
        callsAndReturnsByThePile();
        callsAndReturnsByAPlace();
        findsTheGreatestDivisor();
        countsBits();
        turnsARowRound();
        countsInMemory();
        writesItsOwnInstruction();
        CHECKS.end();
    }

    private static Story story(String name) {
        return new Story(CHECKS, name);
    }

    private static void sumsARowByIndex() {
        story("the sum of a row").put(301, 5).put(302, 7).put(303, -2).put(304, 40)
                .code(100, 0400, 1, 0)
                .code(101, 0270, 1, false, 2, 300)
                .code(102, 0367, 2, 101)
                .code(103, 0, 0, 0)
                .put(2, 4).go(100).run(100, -1).word(1, 50).word(2, 0).counts(104, 10, 10)
                .put(2, 3).go(100).run(100, -1).word(1, 10).counts(104, 18, 8)
                .put(301, -20).put(2, 3).go(100).run(4, 0).word(1, 5).word(2, 2).counts(102, 22, 4)
                .run(100, -1).word(1, Checks.w(-15)).counts(104, 26, 4);
    }

    /** Each part of the list is its value and, behind it, the next part's place. */
    private static void followsAListByIndirection() {
        story("a list").put(500, 3).put(501, 520).put(520, 4).put(521, 510).put(510, 5).put(511, 0).put(2, 500)
                .code(100, 0270, 1, false, 2, 0)
                .code(101, 0336, 2, false, 2, 1)
                .code(102, 0, 0, 0)
                .code(103, 0254, 0, 100)
                .go(100).run(100, -1).word(1, 12).word(2, 0).counts(103, 9, 9)
                .code(600, 0, 0, true, 0, 601).put(601, 520)
                .code(104, 0200, 3, true, 0, 600).go(104).run(1, 0).word(3, 4)
                .put(601, 510).go(104).run(1, 0).word(3, 5).counts(105, 11, 1);
    }

    /** The product 1 .. n, each n kept on the pile while the lower ones are done. */
    private static void callsAndReturnsByThePile() {
        Story story = story("a product by the pile").put(15, Checks.halves(0777000, 1000))
                .code(100, 0260, 15, 200)
                .code(101, 0, 0, 0)
                .code(200, 0327, 1, 203)
                .code(201, 0201, 2, 1)
                .code(202, 0263, 15, 0)
                .code(203, 0261, 15, 1)
                .code(204, 0275, 1, 1)
                .code(205, 0260, 15, 200)
                .code(206, 0262, 15, 1)
                .code(207, 0220, 2, 1)
                .code(208, 0263, 15, 0);
        story.put(1, 5).go(100).run(500, -1).word(2, 120).word(1, 5).word(15, Checks.halves(0777000, 1000))
                .word(1001, 101).word(1002, 5).word(1003, 206).word(1010, 1).word(1011, 206).counts(102, 40, 40)
                .put(1, 0).go(100).run(500, -1).word(2, 1).counts(102, 45, 5)
                .put(1, 13).go(100).run(500, -1).word(2, 6227020800L)
                .put(15, 4093).put(1, 5).go(100).run(500, 2).word(15, 4095).word(1, 4).word(4094, 101).word(4095, 5)
                .count(0, 205);
    }

    private static void callsAndReturnsByAPlace() {
        story("a call by 264").code(100, 0264, 0, 200).code(101, 0264, 0, 200).code(102, 0, 0, 0)
                .code(201, 0271, 1, 5).code(202, 0254, 0, true, 0, 200)
                .go(100).run(3, 0).word(200, 101).word(1, 5).counts(101, 3, 3)
                .run(9, -1).word(200, 102).word(1, 10).counts(103, 7, 4);
    }

    private static void findsTheGreatestDivisor() {
        story("the greatest divisor")
                .code(100, 0322, 2, 106)
                .code(101, 0200, 3, 1)
                .code(102, 0230, 3, 2)
                .code(103, 0200, 1, 2)
                .code(104, 0200, 2, 4)
                .code(105, 0254, 0, 100)
                .code(106, 0, 0, 0)
                .put(1, 1071).put(2, 462).go(100).run(100, -1).word(1, 21).word(2, 0).counts(107, 20, 20)
                .put(1, 17).put(2, 5).go(100).run(100, -1).word(1, 1)
                .put(1, 9).put(2, 0).go(100).run(100, -1).word(1, 9).count(2, 2);
    }

    private static void countsBits() {
        story("the count of bits")
                .code(100, 0400, 2, 0)
                .code(101, 0322, 1, 107)
                .code(102, 0200, 3, 1)
                .code(103, 0405, 3, 1)
                .code(104, 0270, 2, 3)
                .code(105, 0242, 1, -1)
                .code(106, 0254, 0, 101)
                .code(107, 0, 0, 0)
                .put(1, -1).go(100).run(1000, -1).word(2, 36).word(1, 0).count(2, 3 + 36 * 6)
                .put(1, 0525252525252L).go(100).run(1000, -1).word(2, 18)
                .put(1, 0).go(100).run(1000, -1).word(2, 0).count(2, 3);
    }

    /** The first is exchanged with the last, and so on; both ends are indices. */
    private static void turnsARowRound() {
        Story story = story("a row turned round");
        for (int i = 0; i < 5; i++) {
            story.put(300 + i, 10 + i);
        }
        story.code(100, 0201, 1, 0)
                .code(101, 0201, 2, 4)
                .code(102, 0315, 1, 2)
                .code(103, 0254, 0, 105)
                .code(104, 0, 0, 0)
                .code(105, 0200, 3, false, 1, 300)
                .code(106, 0250, 3, false, 2, 300)
                .code(107, 0202, 3, false, 1, 300)
                .code(108, 0275, 2, 1)
                .code(109, 0344, 1, 102)
                .go(100).run(1000, -1).word(300, 14).word(301, 13).word(302, 12).word(303, 11).word(304, 10)
                .counts(105, 18, 18)
                .go(100).run(1000, -1).word(300, 10).word(304, 14).counts(105, 36, 18);
    }

    private static void countsInMemory() {
        story("counts in memory").put(300, -3)
                .code(100, 0352, 0, 300)
                .code(101, 0254, 0, 100)
                .code(102, 0376, 5, 301)
                .code(103, 0, 0, 0)
                .code(104, 0, 0, 0)
                .put(301, 2).go(100).run(100, -1).word(300, 0).word(301, 1).word(5, 1).word(0, 0).counts(105, 7, 7)
                .put(300, -1).go(100).run(100, -1).word(300, 0).word(301, 0).word(5, 0).counts(104, 10, 3);
    }

    /** The instruction at 103 is made of halves, of its op on the left and its E on the right. */
    private static void writesItsOwnInstruction() {
        story("an instruction of halves").put(300, Checks.halves(0201040, 0)).put(301, Checks.halves(0, 77))
                .code(100, 0500, 4, 300)
                .code(101, 0540, 4, 301)
                .code(102, 0202, 4, 103)
                .code(103, 0777, 0, 0)
                .go(100).run(3, 0).word(103, Checks.halves(0201040, 77)).run(2, -1).word(1, 77).counts(105, 5, 2)
                .put(300, Checks.halves(0271040, 0)).go(100).run(9, -1).word(1, 154).counts(105, 10, 5);
    }
}
