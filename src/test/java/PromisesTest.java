/** Each promise by runs of several calls on one object, in which later calls show what earlier ones did. */
public final class PromisesTest {
    private static final Checks CHECKS = new Checks();
    private static final long ONES = Checks.WORD_MASK;
    private static final int MOST = 20000;

    public static void main(String[] args) {
        newObjectIsEmpty();
        newObjectHasItsOwnRow();
        putIsSeenByWordAndRun();
        putCutsWhatIsRun();
        refusedPutLeavesTheWord();
        wordTellsWhatCallsLeft();
        codeIsAsItsWord();
        codeIsRun();
        refusedCodeLeavesTheProgram();
        goIsWhereRunBegins();
        goLeavesAFault();
        runGoesOnWhereItStopped();
        runStopsAtEachFault();
        refusedRunDoesNothing();
        countFollowsRuns();
        countKnowsNothingElse();
        endIsCounted();
        twentiethIndirectionStands();
        lastCallIsAsGoodAsTheFirst();
        CHECKS.end();
    }

    private static Story story(String name) {
        return new Story(CHECKS, name);
    }

    /** The word of an instruction without I and X, put together here so that put need not trust code. */
    private static long instruction(long op, long ac, long y) {
        return op * (1L << 27) + ac * (1L << 23) + y;
    }

    /** Promise 1: all words are 0, so that the first run ends at once, at PC 0. */
    private static void newObjectIsEmpty() {
        story("a new object").counts(0, 0, 0).word(0, 0).word(15, 0).word(16, 0).word(4095, 0)
                .run(0, 0).counts(0, 0, 0)
                .run(5, -1).counts(1, 1, 1)
                .run(5, -1).counts(2, 2, 1)
                .word(0, 0).word(1, 0).word(4095, 0);
    }

    /** Promise 1: one object's calls are not seen by another, be it older or newer. */
    private static void newObjectHasItsOwnRow() {
        Story older = story("an older object").put(50, 9).code(0, 0201, 1, 7);
        Story newer = story("a newer object").word(50, 0).word(0, 0).code(0, 0201, 1, 8).put(51, 3);
        older.run(2, -1).word(1, 7).word(50, 9).word(51, 0).counts(2, 2, 2);
        newer.counts(0, 0, 0).word(1, 0).run(1, 0).word(1, 8).word(50, 0).counts(1, 1, 1);
        story("the newest object").counts(0, 0, 0).word(0, 0).word(1, 0).word(50, 0).word(51, 0);
    }

    /** Promise 2: a word is data, a register, or an instruction; the latest put stands. */
    private static void putIsSeenByWordAndRun() {
        story("put").put(200, 5).word(200, 5).put(200, 6).word(200, 6)
                .put(1, 30)
                .put(100, instruction(0270, 1, 200)).put(101, instruction(0202, 1, 201)).put(102, 0)
                .go(100).run(9, -1).word(1, 36).word(201, 36).word(200, 6)
                .put(200, 4).go(100).run(9, -1).word(1, 40).word(201, 40)
                .put(101, instruction(0202, 1, 202)).go(100).run(9, -1).word(201, 40).word(202, 44)
                .counts(103, 9, 3);
    }

    /** Promise 2: what lies above 36 bits is neither seen nor run. */
    private static void putCutsWhatIsRun() {
        story("put cuts").put(200, -1).word(200, ONES).put(201, ONES + 3).word(201, 2)
                .put(100, instruction(0200, 1, 200) + (5L << 36)).put(101, Long.MIN_VALUE + instruction(0270, 1, 201))
                .word(100, instruction(0200, 1, 200)).word(101, instruction(0270, 1, 201))
                .go(100).run(1, 0).word(1, ONES).run(1, 0).word(1, 1)
                .put(102, 7L << 36).run(1, -1).counts(103, 3, 1);
    }

    /** Promise 2: "Bad", and the object goes on. */
    private static void refusedPutLeavesTheWord() {
        story("put refuses").put(0, 3).put(4095, 4)
                .refused("put(-1)", mill -> mill.put(-1, 8)).refused("put(4096)", mill -> mill.put(4096, 8))
                .word(0, 3).word(4095, 4).put(4095, 5).word(4095, 5).go(4095).run(1, -1).counts(0, 1, 1);
    }

    /** Promise 3: without sign, whoever wrote it; asking changes nothing. */
    private static void wordTellsWhatCallsLeft() {
        story("word").code(100, 0210, 1, 200).code(101, 0202, 1, 4095).put(200, 1)
                .word(1, 0).word(4095, 0).go(100).run(1, 0).word(1, ONES).word(4095, 0)
                .run(1, 0).word(4095, ONES).word(4095, ONES)
                .refused("word(-1)", mill -> mill.word(-1)).refused("word(4096)", mill -> mill.word(4096))
                .word(4095, ONES).counts(102, 2, 1)
                .put(4095, -2).word(4095, ONES - 1).go(101).run(1, 0).word(4095, ONES).word(200, 1);
    }

    /** Promise 4: what code answers is what word answers, and put of it makes the same instruction. */
    private static void codeIsAsItsWord() {
        long due = 0201L << 27 | 15L << 23 | 3L << 18 | 0777776;
        story("code's word").codeAnswers(100, 0201, 15, false, 3, -2, due).word(100, due)
                .codeAnswers(4095, 0777, 15, true, 15, 0777777, ONES).word(4095, ONES)
                .codeAnswers(4095, 0, 0, false, 0, 01000000, 0).word(4095, 0)
                .put(101, due).put(3, 7)
                .go(100).run(1, 0).word(15, 5).put(15, 0).run(1, 0).word(15, 5).counts(102, 2, 1);
    }

    /** Promise 4: every part is obeyed, and a later code at the place is run in its stead. */
    private static void codeIsRun() {
        story("code is run").put(2, 10).put(210, 300).put(300, 44)
                .code(100, 0200, 1, 300).code(101, 0200, 3, false, 2, 290).code(102, 0200, 4, true, 0, 210)
                .code(103, 0200, 5, true, 2, 200).code(104, 0, 0, 0)
                .go(100).run(9, -1).word(1, 44).word(3, 44).word(4, 44).word(5, 44).counts(105, 5, 5)
                .code(101, 0201, 3, false, 2, 290).go(101).run(1, 0).word(3, 300).counts(102, 6, 1);
    }

    /** Promise 4: "Bad" in each part; the instruction that stood there is run. */
    private static void refusedCodeLeavesTheProgram() {
        story("code refuses").code(100, 0271, 1, 1)
                .refused("op 512", mill -> mill.code(100, 512, 0, false, 0, 0))
                .refused("op -1", mill -> mill.code(100, -1, 0, false, 0, 0))
                .refused("ac 16", mill -> mill.code(100, 0201, 16, false, 0, 0))
                .refused("ac -1", mill -> mill.code(100, 0201, -1, false, 0, 0))
                .refused("x 16", mill -> mill.code(100, 0201, 0, false, 16, 0))
                .refused("x -1", mill -> mill.code(100, 0201, 0, false, -1, 0))
                .refused("place 4096", mill -> mill.code(4096, 0201, 0, false, 0, 0))
                .refused("place -1", mill -> mill.code(-1, 0201, 0, false, 0, 0))
                .word(100, instruction(0271, 1, 1)).word(0, 0).word(4095, 0)
                .go(100).run(2, -1).word(1, 1).counts(102, 2, 2);
    }

    /** Promise 5: PC is all that go sets; a refused go leaves PC where the next run begins. */
    private static void goIsWhereRunBegins() {
        story("go").code(100, 0271, 1, 1).code(200, 0271, 2, 1).code(4095, 0271, 3, 1).code(0, 0271, 4, 1)
                .go(100).counts(100, 0, 0).run(1, 0).word(1, 1).counts(101, 1, 1)
                .go(200).counts(200, 1, 1).run(1, 0).word(2, 1).word(1, 1).counts(201, 2, 1)
                .go(100).go(4095).counts(4095, 2, 1).run(2, 0).word(3, 1).word(4, 1).word(1, 1).counts(1, 4, 2)
                .go(200).refused("go(4096)", mill -> mill.go(4096)).refused("go(-1)", mill -> mill.go(-1))
                .counts(200, 4, 2).run(1, 0).word(2, 2).counts(201, 5, 1);
    }

    /** Promise 5: out of a place that has a fault, and back to it. */
    private static void goLeavesAFault() {
        story("go from a fault").code(100, 0777, 0, 0).code(200, 0201, 1, 6)
                .go(100).run(3, 1).counts(100, 0, 0).go(200).counts(200, 0, 0).run(3, -1).word(1, 6).counts(202, 2, 2)
                .go(100).run(3, 1).counts(100, 2, 0);
    }

    /** Promise 6: n are done and no more, then it ends, and behind the end it goes on. */
    private static void runGoesOnWhereItStopped() {
        Story story = story("run");
        for (int place = 100; place < 106; place++) {
            story.code(place, 0271, 1, 1);
        }
        story.code(106, 0, 0, 0).code(107, 0254, 0, 100).go(100)
                .run(0, 0).word(1, 0).counts(100, 0, 0)
                .run(1, 0).word(1, 1).counts(101, 1, 1)
                .run(4, 0).word(1, 5).counts(105, 5, 4)
                .run(1, 0).word(1, 6).counts(106, 6, 1)
                .run(1, -1).word(1, 6).counts(107, 7, 1)
                .run(3, 0).word(1, 8).counts(102, 10, 3)
                .run(MOST, -1).word(1, 12).counts(107, 15, 5)
                .put(106, instruction(0271, 1, 1))
                .run(MOST, 0).counts(107, 15 + MOST, MOST).word(1, 12 + 17500);
    }

    /** Promise 6: each fault is answered as often as it is met, until its cause is gone. */
    private static void runStopsAtEachFault() {
        story("run with faults").code(100, 0201, 1, 90).code(101, 0777, 1, 3).code(102, 0230, 1, 4096).go(100)
                .run(MOST, 1).word(1, 90).counts(101, 1, 1)
                .run(1, 1).counts(101, 1, 0)
                .code(101, 0271, 1, 3).run(MOST, 2).word(1, 93).counts(102, 2, 1)
                .code(102, 0230, 1, 200).run(MOST, 3).word(1, 93).word(2, 0).counts(102, 2, 0)
                .put(200, 10).run(0, 0).counts(102, 2, 0)
                .run(MOST, -1).word(1, 9).word(2, 3).counts(104, 4, 2);
    }

    /** Promise 6: "Bad": the counts and PC stay, and the next run does what this one would have. */
    private static void refusedRunDoesNothing() {
        story("run refuses").code(100, 0344, 1, 100).go(100).run(2, 0).word(1, 2).counts(100, 2, 2)
                .refused("run(-1)", mill -> mill.run(-1)).refused("run(20001)", mill -> mill.run(MOST + 1))
                .word(1, 2).counts(100, 2, 2)
                .run(MOST, 0).word(1, 2 + MOST).counts(100, 2 + MOST, MOST);
    }

    /** Promise 7: the counts after put, code, go and word are those of the runs before. */
    private static void countFollowsRuns() {
        story("count").code(100, 0254, 0, 101).code(101, 0254, 0, 100).go(100)
                .run(3, 0).counts(101, 3, 3).put(300, 1).code(301, 0, 0, 0).word(300, 1).counts(101, 3, 3)
                .run(4, 0).counts(101, 7, 4).go(301).counts(301, 7, 4)
                .run(9, -1).counts(302, 8, 1).run(0, 0).counts(302, 8, 0)
                .code(302, 0777, 0, 0).run(9, 1).counts(302, 8, 0)
                .go(100).run(MOST, 0).counts(100, 8 + MOST, MOST).run(1, 0).counts(101, 9 + MOST, 1);
    }

    /** Promise 7: "else -1", between runs, and they go on. */
    private static void countKnowsNothingElse() {
        story("other counts").code(0, 0201, 1, 4).count(3, -1).count(-1, -1)
                .run(1, 0).count(3, -1).count(-1, -1).count(Integer.MAX_VALUE, -1).count(Integer.MIN_VALUE, -1)
                .counts(1, 1, 1).word(1, 4);
    }

    /** Promise 8: "The INSTRUCTION that ends a run is counted, too (count 1 and 2)." */
    private static void endIsCounted() {
        story("ends").code(100, 0201, 1, 1).code(101, 0201, 2, 2).code(102, 0, 0, 0).code(103, 0, 0, 0).go(100)
                .run(2, 0).counts(102, 2, 2).run(2, -1).counts(103, 3, 1).run(2, -1).counts(104, 4, 1)
                .go(100).run(2, 0).counts(102, 6, 2).go(100).run(3, -1).counts(103, 9, 3);
    }

    /**
     * Promise 8: "At the twentieth indirection E stands as it is; I is not looked at any more." The words 700 .. 719
     * are a chain; the instructions enter it at its first word, and then at its second.
     */
    private static void twentiethIndirectionStands() {
        Story story = story("indirections").code(100, 0201, 1, true, 0, 700).code(101, 0200, 2, true, 0, 700);
        for (int place = 700; place < 720; place++) {
            story.code(place, 0, 0, true, 0, place + 1);
        }
        story.put(720, 900).put(900, 33)
                .go(100).run(2, 0).word(1, 720).word(2, 900)
                .code(100, 0201, 1, true, 0, 701).code(101, 0200, 2, true, 0, 701)
                .go(100).run(3, -1).word(1, 900).word(2, 33).counts(103, 5, 3)
                .code(720, 0, 0, true, 0, 4095).put(4095, 5)
                .go(100).run(3, -1).word(1, 4095).word(2, 5).counts(103, 8, 3)
                .code(720, 0, 0, true, 0, 4096)
                .go(100).run(3, 2).word(1, 4096).word(2, 5).counts(101, 9, 1);
    }

    /** "An object is used for at most 512 calls": this one is used for all of them. */
    private static void lastCallIsAsGoodAsTheFirst() {
        Story story = story("512 calls").code(100, 0354, 0, 200).code(102, 0254, 0, 100).go(100);
        for (int turn = 1; turn <= 169; turn++) {
            story.run(2, 0).word(200, turn).count(1, 2 * turn);
        }
        story.run(1, 0).word(200, 170);
        CHECKS.same("calls of the story", story.calls(), 512);
    }
}
