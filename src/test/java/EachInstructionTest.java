/** Promise 8 (row): each instruction with each register, in a frame entry and in its common one. */
public final class EachInstructionTest {
    private static final int UNDEFINED = 0;
    private static final int SAME = 1;
    private static final int OFFSET = 2;
    private static final int VALUE = 3;
    private static final int REGISTER = 4;
    private static final int EXPRESSION = 5;
    private static final int VALUE_EXPRESSION = 6;
    private static final int CFA = -1;
    private static final int CFA_REGISTER = 1;
    private static final int CFA_EXPRESSION = 2;

    private static final int RETURN = 6;
    private static final int DATA = -3;
    /** How many bytes stand ahead of the instructions of a common entry, and of a frame entry. */
    private static final int COMMON_HEAD = 12;
    private static final int FRAME_HEAD = 16;
    /** -7, as SLEB has it. */
    private static final int MINUS_7 = 0x79;

    private EachInstructionTest() {
    }

    public static void main(String[] args) {
        for (int r = 0; r < 8; r++) {
            rulesWithoutBytes(r);
            rulesWithBytes(r);
            rulesOfCfa(r);
            commonRuleAgain(r);
        }
        for (int low = 0; low < 64; low++) {
            placesOn(low);
        }
        Check.finish();
    }

    private static FrameUnwinder inCommon(int... instructions) {
        return Code.load(Code.common(1, DATA, RETURN, instructions), Code.frame(0, 0, 9));
    }

    private static FrameUnwinder inFrame(int... instructions) {
        return Code.load(Code.common(1, DATA, RETURN), Code.frame(0, 0, 9, instructions));
    }

    /** In both kinds of entry register r has this rule, and all others are as they were. */
    private static void both(int r, int kind, int number, int... instructions) {
        ruleAlone(inCommon(instructions), r, kind, number, 0);
        ruleAlone(inFrame(instructions), r, kind, number, 0);
    }

    private static void ruleAlone(FrameUnwinder x, int r, int kind, int number, int second) {
        for (int other = 0; other < 8; other++) {
            if (other == r) {
                Expect.rule(x, 0, r, kind, number, second);
            } else {
                Expect.rule(x, 0, other, other == RETURN ? UNDEFINED : other == 7 ? VALUE : SAME, 0, 0);
            }
        }
        Expect.rule(x, 0, CFA, 0, 0, 0);
    }

    private static void rulesWithoutBytes(int r) {
        both(r, OFFSET, 7 * DATA, 128 + r, 7);
        both(r, OFFSET, 7 * DATA, 5, r, 7);
        both(r, OFFSET, -7 * DATA, 17, r, MINUS_7);
        both(r, VALUE, 7 * DATA, 20, r, 7);
        both(r, VALUE, -7 * DATA, 21, r, MINUS_7);
        // Another rule ahead, so that none of these can be the one that was there at first.
        both(r, UNDEFINED, 0, 5, r, 7, 7, r);
        both(r, SAME, 0, 5, r, 7, 8, r);
        for (int second = 0; second < 8; second++) {
            both(r, REGISTER, second, 9, r, second);
        }
    }

    private static void rulesWithBytes(int r) {
        int[] kinds = {16, EXPRESSION, 22, VALUE_EXPRESSION};
        for (int k = 0; k < kinds.length; k += 2) {
            int[] code = {kinds[k], r, 2, 150, 150};
            ruleAlone(inCommon(code), r, kinds[k + 1], COMMON_HEAD + 3, 2);
            ruleAlone(inFrame(code), r, kinds[k + 1], COMMON_HEAD + FRAME_HEAD + 3, 2);
        }
    }

    private static void rulesOfCfa(int r) {
        cfaInBoth(7, r, 12, r, 7);
        cfaInBoth(-7 * DATA, r, 18, r, MINUS_7);
        cfaInBoth(0, r, 13, r);
        cfaInBoth(5, r, 12, 7 - r, 5, 13, r);
        cfaInBoth(7, r, 12, r, 5, 14, 7);
        cfaInBoth(-7 * DATA, r, 12, r, 5, 19, MINUS_7);
        cfaInBoth(7, 0, 14, 7);
        cfaInBoth(-7 * DATA, 0, 19, MINUS_7);
        Expect.rule(inCommon(12, r, 7, 15, 1, 150), 0, CFA, CFA_EXPRESSION, COMMON_HEAD + 5, 1);
        Expect.rule(inFrame(12, r, 7, 15, 1, 150), 0, CFA, CFA_EXPRESSION, COMMON_HEAD + FRAME_HEAD + 5, 1);
    }

    private static void cfaInBoth(int number, int register, int... instructions) {
        Expect.rule(inCommon(instructions), 0, CFA, CFA_REGISTER, number, register);
        Expect.rule(inFrame(instructions), 0, CFA, CFA_REGISTER, number, register);
    }

    private static void commonRuleAgain(int r) {
        byte[] told = Code.common(1, DATA, RETURN, 5, r, 7);
        byte[] untold = Code.common(1, DATA, RETURN);
        int first = r == RETURN ? UNDEFINED : r == 7 ? VALUE : SAME;
        int[][] again = {{6, r}, {192 + r}};
        for (int[] code : again) {
            byte[] frame = Code.frame(0, 0, 9, Code.join(Code.of(20, r, 9), Code.of(code)));
            ruleAlone(Code.load(told, frame), r, OFFSET, 7 * DATA, 0);
            ruleAlone(Code.load(untold, frame), r, first, 0, 0);
        }
    }

    /** The place is the low six bits times the code factor on. */
    private static void placesOn(int low) {
        FrameUnwinder x = Code.load(Code.common(3, DATA, RETURN), Code.frame(0, 10, 500, 64 + low, 7, 0));
        int place = 10 + 3 * low;
        Expect.rule(x, place, 0, UNDEFINED, 0, 0);
        if (low > 0) {
            Expect.rule(x, place - 1, 0, SAME, 0, 0);
        }
    }
}
