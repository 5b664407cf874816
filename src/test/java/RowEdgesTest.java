import java.util.NoSuchElementException;

/** Each edge that the document names of instructions, rules, rows and places: promises 7 and 8. */
public final class RowEdgesTest {
    private static final int MIN = Integer.MIN_VALUE;
    private static final int MAX = Integer.MAX_VALUE;
    private static final int CFA = -1;
    private static final int UNDEFINED = 0;
    private static final int SAME = 1;
    private static final int OFFSET = 2;
    private static final int VALUE = 3;
    private static final int REGISTER = 4;
    private static final int EXPRESSION = 5;
    private static final int VALUE_EXPRESSION = 6;
    private static final int CFA_REGISTER = 1;
    private static final int CFA_EXPRESSION = 2;

    /** Where the instructions of a frame entry behind a common one of 12 bytes begin. */
    private static final int INSIDE = 28;

    private RowEdgesTest() {
    }

    public static void main(String[] args) {
        placesOfInstructions();
        rulesOfInstructions();
        rules();
        find();
        row();
        Check.finish();
    }

    private static void placesOfInstructions() {
        Check.sentence("INSTRUCTIONS change the ROW at a PLACE (first of the frame entry; instructions of common"
            + " entries have none)", RowEdgesTest::placeAtFirst);
        Check.sentence("h = 1: the place is the low six bits times the code factor on", RowEdgesTest::sixBitsOn);
        Check.sentence("0 nothing.", RowEdgesTest::nothing);
        Check.sentence("1 U4: the place becomes that.", RowEdgesTest::placeBecomes);
        Check.sentence("2 U1, 3 U2, 4 U4: the place is that times the code factor on.", RowEdgesTest::placeGoesOn);
        Check.sentence("NUMBERS are ints (32 bits, wrapping) where nothing else is said.", RowEdgesTest::wrapping);
    }

    private static void rulesOfInstructions() {
        Check.sentence("h = 2: register (low six bits) OFFSET, ULEB times the data factor",
            RowEdgesTest::shortOffset);
        Check.sentence("h = 3: register (low six bits) gets the rule of the common entry again.",
            RowEdgesTest::shortAgain);
        Check.sentence("5 register, ULEB: OFFSET, times the data factor.", RowEdgesTest::offset);
        Check.sentence("6 register: the common entry's rule again.", RowEdgesTest::again);
        Check.sentence("7 register: UNDEFINED. 8 register: SAME.", RowEdgesTest::undefinedAndSame);
        Check.sentence("9 register, register: REGISTER, the second.", RowEdgesTest::otherRegister);
        Check.sentence("10: the row is remembered. 11: the row that was remembered last comes back.",
            RowEdgesTest::rowsComeBack);
        Check.sentence("12 register, ULEB: CFA is that register and so many more.", RowEdgesTest::cfa);
        Check.sentence("13 register: CFA's register. 14 ULEB: CFA's number.", RowEdgesTest::halfOfCfa);
        Check.sentence("15 ULEB n, n bytes: CFA is an expression. 16 register, ULEB n, n bytes: EXPRESSION.",
            RowEdgesTest::expressions);
        Check.sentence("17 register, SLEB: OFFSET, times the data factor.", RowEdgesTest::signedOffset);
        Check.sentence("18 register, SLEB: as 12, times the data factor. 19 SLEB: as 14, times the data factor.",
            RowEdgesTest::signedCfa);
        Check.sentence("20 register, ULEB: VALUE, times the data factor. 21 register, SLEB: VALUE, likewise.",
            RowEdgesTest::values);
        Check.sentence("22 register, ULEB n, n bytes: VALUE EXPRESSION.", RowEdgesTest::valueExpressions);
        Check.sentence("13, 14 and 19 need that CFA was told as a register and a number ahead in the entry or its"
            + " common one, else they are as 12 with number 0 or register 0", RowEdgesTest::cfaNotToldAhead);
    }

    private static void rules() {
        Check.sentence("RULES at first: SAME for all registers, but VALUE 0 for register 7",
            RowEdgesTest::firstRules);
        Check.sentence("and UNDEFINED for the return register (also if it is 7)", RowEdgesTest::firstRuleOfReturn);
        Check.sentence("CFA isn't told.", RowEdgesTest::cfaAtFirst);
        Check.sentence("The row of a frame entry at pc: its common entry's instructions, then its own",
            RowEdgesTest::commonFirst);
        Check.sentence("as long as the place isn't above pc", RowEdgesTest::notAbovePc);
        Check.sentence("(places without sign)", RowEdgesTest::placesWithoutSign);
    }

    private static void find() {
        Check.sentence("The first frame entry that has a place, by entries from 0 on", RowEdgesTest::firstEntry);
        Check.sentence("find: NONE", RowEdgesTest::noEntry);
        Check.sentence("first <= p < first + range", RowEdgesTest::edgesOfRange);
        Check.sentence("(without sign, without wrapping)", RowEdgesTest::rangeWithoutSign);
        Check.sentence("find: IllegalStateException if the section isn't sound.", RowEdgesTest::findUnsound);
    }

    private static void row() {
        Check.sentence("The row at pc: of register r, or of CFA (r = -1)", RowEdgesTest::registersAndCfa);
        Check.sentence("its kind (what = 0): 0 UNDEFINED, 1 SAME, 2 OFFSET, 3 VALUE, 4 REGISTER, 5 EXPRESSION,"
            + " 6 VALUE EXPRESSION", RowEdgesTest::kinds);
        Check.sentence("of CFA 0 not told, 1 a register and a number, 2 an expression", RowEdgesTest::kindsOfCfa);
        Check.sentence("its number (1): n, r, or where the expression's bytes begin (0 for others)",
            RowEdgesTest::numbers);
        Check.sentence("2 how many bytes the expression has, of CFA with a register that one (0 for others).",
            RowEdgesTest::seconds);
        Check.sentence("row: IllegalStateException if the section isn't sound", RowEdgesTest::rowUnsound);
        Check.sentence("NoSuchElementException if no entry has the place", RowEdgesTest::rowNowhere);
        Check.sentence("IllegalArgumentException if r is not -1 .. 7", RowEdgesTest::rowOfNoRegister);
        Check.sentence("or what not 0 .. 2.", RowEdgesTest::rowOfNothing);
    }

    /** A common entry of 12 bytes with factors 1 and -4, and a frame entry for the places 0 .. 99. */
    private static FrameUnwinder frameWith(int... instructions) {
        return Code.load(Code.common(1, -4, 6), Code.frame(0, 0, 100, instructions));
    }

    /** The same, with other factors. */
    private static FrameUnwinder factors(int code, int data, int... instructions) {
        return Code.load(Code.common(code, data, 6), Code.frame(0, 0, MAX, instructions));
    }

    /** Register r is UNDEFINED from the place on, and not ahead of it. */
    private static void begins(FrameUnwinder x, int r, int place) {
        Check.same("row(" + (place - 1) + ", " + r + ", 0)", x.row(place - 1, r, 0), SAME);
        Check.same("row(" + place + ", " + r + ", 0)", x.row(place, r, 0), UNDEFINED);
    }

    private static void placeAtFirst() {
        FrameUnwinder x = Code.load(Code.common(5, 1, 6, 7, 0), Code.frame(0, 20, 50, 7, 1, 0x41, 7, 2));
        Expect.rule(x, 20, 0, UNDEFINED, 0, 0);
        Expect.rule(x, 20, 1, UNDEFINED, 0, 0);
        begins(x, 2, 25);
        FrameUnwinder last = Code.load(Code.common(5, 1, 6, 7, 0), Code.frame(0, MAX, 1, 7, 1));
        Expect.rule(last, MAX, 0, UNDEFINED, 0, 0);
        Expect.rule(last, MAX, 1, UNDEFINED, 0, 0);
    }

    private static void sixBitsOn() {
        begins(factors(1, 1, 0x7F, 7, 0), 0, 63);
        begins(factors(1, 1, 0x41, 7, 0), 0, 1);
        begins(factors(300, 1, 0x7F, 7, 0), 0, 63 * 300);
        begins(factors(2, 1, 0x43, 0x40, 0x44, 7, 0), 0, 14);
        Expect.rule(factors(9, 1, 0x40, 7, 0), 0, 0, UNDEFINED, 0, 0);
        Expect.rule(factors(0, 1, 0x7F, 7, 0), 0, 0, UNDEFINED, 0, 0);
    }

    private static void nothing() {
        FrameUnwinder x = frameWith(0, 12, 3, 4, 0, 0, 7, 1, 0);
        Expect.rule(x, 0, CFA, CFA_REGISTER, 4, 3);
        Expect.rule(x, 0, 1, UNDEFINED, 0, 0);
        Expect.rule(x, 0, 0, SAME, 0, 0);
        Expect.rule(x, 0, 7, VALUE, 0, 0);
    }

    private static void placeBecomes() {
        begins(factors(7, 1, 1, 44, 1, 0, 0, 7, 0), 0, 300);
        begins(factors(7, 1, 0x42, 1, 3, 0, 0, 0, 7, 0, 0x41, 7, 1), 1, 14);
        Expect.rule(factors(7, 1, 1, 0, 0, 0, 0, 7, 0), 0, 0, UNDEFINED, 0, 0);
        Expect.rule(factors(7, 1, 1, 255, 255, 255, 255, 7, 0), MAX - 1, 0, SAME, 0, 0);
    }

    private static void placeGoesOn() {
        begins(factors(3, 1, 2, 255, 7, 0), 0, 765);
        begins(factors(3, 1, 3, 255, 255, 7, 0), 0, 196605);
        begins(factors(3, 1, 4, 0, 0, 1, 0, 7, 0), 0, 196608);
        begins(factors(1, 1, 4, 254, 255, 255, 127, 7, 0), 0, MAX - 1);
        FrameUnwinder x = factors(2, 1, 2, 1, 7, 0, 3, 2, 0, 7, 1, 4, 3, 0, 0, 0, 7, 2);
        begins(x, 0, 2);
        begins(x, 1, 6);
        begins(x, 2, 12);
        Expect.rule(factors(2, 1, 2, 0, 7, 0, 3, 0, 0, 7, 1, 4, 0, 0, 0, 0, 7, 2), 0, 2, UNDEFINED, 0, 0);
    }

    private static void wrapping() {
        Expect.rule(factors(1, 0x40000001, 0x80, 6), 0, 0, OFFSET, -0x7FFFFFFA, 0);
        Expect.rule(factors(1, MIN, 17, 0, 0x7F), 0, 0, OFFSET, MIN, 0);
        Expect.rule(factors(1, 65536, 20, 0, 128, 128, 4), 0, 0, VALUE, 0, 0);
        Expect.rule(factors(1, MAX, 18, 3, 2), 0, CFA, CFA_REGISTER, -2, 3);
        Expect.rule(factors(1, MAX, 19, 2), 0, CFA, CFA_REGISTER, -2, 0);
        // The place goes 4 * 2^30 on: it stays where it is.
        Expect.rule(factors(0x40000000, 1, 0x44, 7, 0), 0, 0, UNDEFINED, 0, 0);
        // The place goes -1 on, from 5 to 4.
        begins(factors(-1, 1, 1, 5, 0, 0, 0, 0x41, 7, 0), 0, 5);
        // The place goes 2 on and 2^32 - 1 on, from 8 to 10 and to 9.
        byte[] frame = Code.frame(0, 8, 8, 4, 2, 0, 0, 0, 4, 255, 255, 255, 255, 7, 0);
        begins(Code.load(Code.common(1, 1, 6), frame), 0, 10);
    }

    private static void shortOffset() {
        FrameUnwinder x = frameWith(0x80, 0, 0x81, 127, 0x86, 128, 1, 0x87, 1);
        Expect.rule(x, 0, 0, OFFSET, 0, 0);
        Expect.rule(x, 0, 1, OFFSET, -508, 0);
        Expect.rule(x, 0, 6, OFFSET, -512, 0);
        Expect.rule(x, 0, 7, OFFSET, -4, 0);
    }

    private static FrameUnwinder restoring(int... instructions) {
        return Code.load(Code.common(1, 2, 6, 5, 0, 4, 16, 5, 1, 0), Code.frame(0, 0, 9, instructions));
    }

    private static void shortAgain() {
        FrameUnwinder x = restoring(7, 0, 7, 5, 8, 6, 7, 7, 7, 1, 0xC0, 0xC5, 0xC6, 0xC7);
        Expect.rule(x, 0, 0, OFFSET, 8, 0);
        Expect.rule(x, 0, 5, EXPRESSION, 18, 1);
        Expect.rule(x, 0, 6, UNDEFINED, 0, 0);
        Expect.rule(x, 0, 7, VALUE, 0, 0);
        Expect.rule(x, 0, 1, UNDEFINED, 0, 0);
    }

    private static void offset() {
        FrameUnwinder x = frameWith(5, 0, 0, 5, 6, 127, 5, 7, 255, 255, 255, 255, 15);
        Expect.rule(x, 0, 0, OFFSET, 0, 0);
        Expect.rule(x, 0, 6, OFFSET, -508, 0);
        Expect.rule(x, 0, 7, OFFSET, 4, 0);
    }

    private static void again() {
        FrameUnwinder x = restoring(7, 0, 7, 5, 8, 6, 7, 7, 7, 1, 6, 0, 6, 5, 6, 6, 6, 7, 6, 2);
        Expect.rule(x, 0, 0, OFFSET, 8, 0);
        Expect.rule(x, 0, 5, EXPRESSION, 18, 1);
        Expect.rule(x, 0, 6, UNDEFINED, 0, 0);
        Expect.rule(x, 0, 7, VALUE, 0, 0);
        Expect.rule(x, 0, 1, UNDEFINED, 0, 0);
        Expect.rule(x, 0, 2, SAME, 0, 0);
        // A row that came back is not the common entry's.
        FrameUnwinder y = restoring(7, 0, 10, 8, 0, 11, 6, 0);
        Expect.rule(y, 0, 0, OFFSET, 8, 0);
    }

    private static void undefinedAndSame() {
        FrameUnwinder x = frameWith(5, 0, 3, 16, 1, 1, 0, 7, 0, 8, 1, 8, 6, 8, 7);
        Expect.rule(x, 0, 0, UNDEFINED, 0, 0);
        Expect.rule(x, 0, 1, SAME, 0, 0);
        Expect.rule(x, 0, 6, SAME, 0, 0);
        Expect.rule(x, 0, 7, SAME, 0, 0);
    }

    private static void otherRegister() {
        FrameUnwinder x = frameWith(9, 0, 7, 9, 7, 0, 9, 3, 3, 16, 4, 1, 0, 9, 4, 2);
        Expect.rule(x, 0, 0, REGISTER, 7, 0);
        Expect.rule(x, 0, 7, REGISTER, 0, 0);
        Expect.rule(x, 0, 3, REGISTER, 3, 0);
        Expect.rule(x, 0, 4, REGISTER, 2, 0);
    }

    /** Four rows, each with another register 0 .. 3 lost and another CFA; register 6 and 7 change, too. */
    private static void rowsComeBack() {
        FrameUnwinder x = frameWith(10, 7, 0, 12, 0, 1, 10, 7, 1, 12, 1, 2, 10, 7, 2, 15, 0, 10, 7, 3, 8, 6, 8, 7,
            12, 3, 4, 0x41, 11, 0x41, 11, 0x41, 11, 0x41, 11, 0x41, 10, 7, 4, 11);
        int expression = INSIDE + 17;
        int[][] cfas = {{CFA_REGISTER, 4, 3}, {CFA_EXPRESSION, expression, 0}, {CFA_REGISTER, 2, 1},
            {CFA_REGISTER, 1, 0}, {0, 0, 0}, {0, 0, 0}};
        for (int pc = 0; pc < cfas.length; pc++) {
            Expect.rule(x, pc, CFA, cfas[pc][0], cfas[pc][1], cfas[pc][2]);
            for (int r = 0; r < 4; r++) {
                Check.same("row(" + pc + ", " + r + ", 0)", x.row(pc, r, 0), r < 4 - pc ? UNDEFINED : SAME);
            }
            Check.same("row(" + pc + ", 4, 0)", x.row(pc, 4, 0), SAME);
            Check.same("row(" + pc + ", 6, 0)", x.row(pc, 6, 0), pc == 0 ? SAME : UNDEFINED);
            Check.same("row(" + pc + ", 7, 0)", x.row(pc, 7, 0), pc == 0 ? SAME : VALUE);
        }
        // The place doesn't come back with the row.
        begins(frameWith(10, 0x45, 11, 7, 0), 0, 5);
    }

    private static void cfa() {
        Expect.rule(frameWith(12, 0, 0), 0, CFA, CFA_REGISTER, 0, 0);
        Expect.rule(frameWith(12, 7, 127), 0, CFA, CFA_REGISTER, 127, 7);
        Expect.rule(frameWith(12, 7, 255, 255, 255, 255, 15), 0, CFA, CFA_REGISTER, -1, 7);
        Expect.rule(frameWith(15, 1, 0, 12, 7, 3), 0, CFA, CFA_REGISTER, 3, 7);
    }

    private static void halfOfCfa() {
        Expect.rule(frameWith(12, 7, 9, 13, 0), 0, CFA, CFA_REGISTER, 9, 0);
        Expect.rule(frameWith(12, 7, 9, 14, 0), 0, CFA, CFA_REGISTER, 0, 7);
        Expect.rule(frameWith(12, 7, 9, 14, 255, 255, 255, 255, 15), 0, CFA, CFA_REGISTER, -1, 7);
        Expect.rule(frameWith(18, 7, 9, 13, 1), 0, CFA, CFA_REGISTER, -36, 1);
    }

    private static void expressions() {
        Expect.rule(frameWith(15, 0), 0, CFA, CFA_EXPRESSION, INSIDE + 2, 0);
        Expect.rule(frameWith(12, 7, 9, 15, 3, 0, 0, 0), 0, CFA, CFA_EXPRESSION, INSIDE + 5, 3);
        Expect.rule(frameWith(16, 7, 0), 0, 7, EXPRESSION, INSIDE + 3, 0);
        Expect.rule(frameWith(16, 0, 130, 0, 255, 255), 0, 0, EXPRESSION, INSIDE + 4, 2);
        byte[] longest = new byte[512 - INSIDE];
        longest[0] = 15;
        longest[1] = (byte) (512 - INSIDE - 3 & 127 | 128);
        longest[2] = (byte) (512 - INSIDE - 3 >> 7);
        FrameUnwinder x = Code.load(Code.common(1, -4, 6), Code.frame(0, 0, 100, longest));
        Expect.rule(x, 0, CFA, CFA_EXPRESSION, INSIDE + 3, 512 - INSIDE - 3);
        // The bytes of an expression are no instructions.
        Expect.rule(frameWith(15, 2, 7, 1, 16, 2, 2, 7, 3), 0, 1, SAME, 0, 0);
        Expect.rule(frameWith(15, 2, 7, 1, 16, 2, 2, 7, 3), 0, 3, SAME, 0, 0);
    }

    private static void signedOffset() {
        FrameUnwinder x = frameWith(17, 0, 63, 17, 1, 64, 17, 2, 127, 17, 7, 0);
        Expect.rule(x, 0, 0, OFFSET, -252, 0);
        Expect.rule(x, 0, 1, OFFSET, 256, 0);
        Expect.rule(x, 0, 2, OFFSET, 4, 0);
        Expect.rule(x, 0, 7, OFFSET, 0, 0);
    }

    private static void signedCfa() {
        Expect.rule(frameWith(18, 7, 63), 0, CFA, CFA_REGISTER, -252, 7);
        Expect.rule(frameWith(18, 7, 64), 0, CFA, CFA_REGISTER, 256, 7);
        Expect.rule(frameWith(12, 3, 9, 19, 63), 0, CFA, CFA_REGISTER, -252, 3);
        Expect.rule(frameWith(12, 3, 9, 19, 64), 0, CFA, CFA_REGISTER, 256, 3);
        Expect.rule(frameWith(12, 3, 9, 19, 127), 0, CFA, CFA_REGISTER, 4, 3);
    }

    private static void values() {
        FrameUnwinder x = frameWith(20, 0, 127, 20, 1, 255, 255, 255, 255, 15, 21, 2, 63, 21, 3, 64, 21, 6, 127,
            20, 7, 1);
        Expect.rule(x, 0, 0, VALUE, -508, 0);
        Expect.rule(x, 0, 1, VALUE, 4, 0);
        Expect.rule(x, 0, 2, VALUE, -252, 0);
        Expect.rule(x, 0, 3, VALUE, 256, 0);
        Expect.rule(x, 0, 6, VALUE, 4, 0);
        Expect.rule(x, 0, 7, VALUE, -4, 0);
    }

    private static void valueExpressions() {
        Expect.rule(frameWith(22, 7, 0), 0, 7, VALUE_EXPRESSION, INSIDE + 3, 0);
        Expect.rule(frameWith(22, 0, 3, 0, 0, 0), 0, 0, VALUE_EXPRESSION, INSIDE + 3, 3);
        Expect.rule(frameWith(22, 0, 2, 7, 1), 0, 1, SAME, 0, 0);
    }

    private static void cfaNotToldAhead() {
        Expect.rule(frameWith(13, 5), 0, CFA, CFA_REGISTER, 0, 5);
        Expect.rule(frameWith(14, 9), 0, CFA, CFA_REGISTER, 9, 0);
        Expect.rule(frameWith(19, 9), 0, CFA, CFA_REGISTER, -36, 0);
        Expect.rule(frameWith(15, 2, 0, 0, 13, 5), 0, CFA, CFA_REGISTER, 0, 5);
        Expect.rule(frameWith(15, 2, 0, 0, 14, 9), 0, CFA, CFA_REGISTER, 9, 0);
        Expect.rule(frameWith(15, 2, 0, 0, 19, 9), 0, CFA, CFA_REGISTER, -36, 0);
        Expect.rule(frameWith(13, 5, 14, 9), 0, CFA, CFA_REGISTER, 9, 5);
        int[][] halves = {{13, 5, 3, 5}, {14, 9, 9, 4}, {19, 9, 18, 4}};
        for (int[] half : halves) {
            FrameUnwinder x = Code.load(Code.common(1, 2, 6, 12, 4, 3), Code.frame(0, 0, 9, half[0], half[1]));
            Expect.rule(x, 0, CFA, CFA_REGISTER, half[2], half[3]);
        }
        // Another entry of the same common one doesn't tell it.
        FrameUnwinder other = Code.load(Code.common(1, 2, 6), Code.frame(0, 0, 9, 12, 4, 3),
            Code.frame(0, 9, 9, 13, 5));
        Expect.rule(other, 9, CFA, CFA_REGISTER, 0, 5);
        Expect.rule(Code.load(Code.common(1, 2, 6, 14, 9), Code.frame(0, 0, 9, 13, 5)), 0, CFA, CFA_REGISTER, 9, 5);
    }

    private static void firstRules() {
        FrameUnwinder x = frameWith();
        for (int r = 0; r < 6; r++) {
            Expect.rule(x, 0, r, SAME, 0, 0);
        }
        Expect.rule(x, 0, 7, VALUE, 0, 0);
    }

    private static void firstRuleOfReturn() {
        for (int back = 0; back < 8; back++) {
            FrameUnwinder x = Code.load(Code.common(1, 1, back), Code.frame(0, 0, 1));
            for (int r = 0; r < 8; r++) {
                Expect.rule(x, 0, r, r == back ? UNDEFINED : r == 7 ? VALUE : SAME, 0, 0);
            }
        }
    }

    private static void cfaAtFirst() {
        Expect.rule(frameWith(), 0, CFA, 0, 0, 0);
        Expect.rule(frameWith(7, 0, 5, 7, 1), 0, CFA, 0, 0, 0);
    }

    private static void commonFirst() {
        FrameUnwinder x = Code.load(Code.common(1, 1, 6, 7, 0, 7, 1, 12, 1, 1),
            Code.frame(0, 0, 9, 8, 1, 7, 2, 0x43, 7, 3, 12, 2, 2));
        Expect.rule(x, 0, 0, UNDEFINED, 0, 0);
        Expect.rule(x, 0, 1, SAME, 0, 0);
        Expect.rule(x, 0, 2, UNDEFINED, 0, 0);
        Expect.rule(x, 0, CFA, CFA_REGISTER, 1, 1);
        Expect.rule(x, 3, CFA, CFA_REGISTER, 2, 2);
    }

    private static void notAbovePc() {
        FrameUnwinder x = Code.load(Code.common(1, 1, 6),
            Code.frame(0, 10, 50, 7, 0, 0x4A, 7, 1, 1, 5, 0, 0, 0, 7, 2, 0x5E, 7, 3));
        Expect.rule(x, 10, 0, UNDEFINED, 0, 0);
        begins(x, 1, 20);
        // The place goes back to 5, but only from 20 on is it reached.
        begins(x, 2, 20);
        begins(x, 3, 35);
    }

    private static void placesWithoutSign() {
        FrameUnwinder x = Code.load(Code.common(1, 1, 6), Code.frame(0, MAX, MAX, 7, 0, 0x41, 7, 1, 0x41, 7, 2));
        Expect.rule(x, MAX, 0, UNDEFINED, 0, 0);
        Expect.rule(x, MAX, 1, SAME, 0, 0);
        Expect.rule(x, MIN, 1, UNDEFINED, 0, 0);
        Expect.rule(x, MIN, 2, SAME, 0, 0);
        Expect.rule(x, MIN + 1, 2, UNDEFINED, 0, 0);
        Expect.rule(x, -3, 2, UNDEFINED, 0, 0);
        FrameUnwinder high = factors(1, 1, 1, 0, 0, 0, 128, 7, 0);
        Expect.rule(high, 0, 0, SAME, 0, 0);
        Expect.rule(high, MAX - 1, 0, SAME, 0, 0);
    }

    private static FrameUnwinder several() {
        return Code.load(Code.common(1, -4, 6), Code.frame(0, 30, 10), Code.frame(0, 10, 25), Code.common(1, 1, 1),
            Code.frame(44, 10, 40));
    }

    private static void firstEntry() {
        FrameUnwinder x = several();
        int[][] due = {{10, 2}, {29, 2}, {30, 1}, {34, 1}, {35, 1}, {39, 1}, {40, 4}, {49, 4}};
        for (int[] pair : due) {
            Check.same("find(" + pair[0] + ")", x.find(pair[0]), pair[1]);
        }
    }

    private static void noEntry() {
        FrameUnwinder x = several();
        for (int pc : new int[] {9, 50, 0, -1, MIN, MAX}) {
            Check.same("find(" + pc + ")", x.find(pc), FrameUnwinder.NONE);
        }
        Check.same("find(0) of nothing", new FrameUnwinder().find(0), FrameUnwinder.NONE);
        FrameUnwinder common = Code.load(Code.common(1, -4, 6));
        Check.same("find(0) of a common entry alone", common.find(0), FrameUnwinder.NONE);
    }

    private static void edgesOfRange() {
        int[][] due = {{4, 3, 3, -1}, {4, 3, 4, 1}, {4, 3, 6, 1}, {4, 3, 7, -1}, {4, 0, 4, -1}, {4, 0, 3, -1},
            {4, 1, 4, 1}, {4, 1, 5, -1}, {0, 1, 0, 1}, {0, 1, 1, -1}, {0, 1, -1, -1}, {0, 0, 0, -1},
            {0, MAX, MAX - 1, 1}, {0, MAX, MAX, -1}};
        for (int[] one : due) {
            FrameUnwinder x = Code.load(Code.common(1, 1, 6), Code.frame(0, one[0], one[1]));
            Check.same("find(" + one[2] + ") of " + one[0] + ", " + one[1], x.find(one[2]), one[3]);
        }
    }

    private static void rangeWithoutSign() {
        FrameUnwinder x = Code.load(Code.common(1, 1, 6), Code.frame(0, MAX, MAX));
        int[][] due = {{MAX - 1, -1}, {MAX, 1}, {MIN, 1}, {MIN + 1, 1}, {-3, 1}, {-2, -1}, {-1, -1}, {0, -1}};
        for (int[] pair : due) {
            Check.same("find(" + pair[0] + ")", x.find(pair[0]), pair[1]);
        }
        FrameUnwinder one = Code.load(Code.common(1, 1, 6), Code.frame(0, MAX, 1));
        Check.same("find(MAX)", one.find(MAX), 1);
        Check.same("find(MIN)", one.find(MIN), -1);
        FrameUnwinder two = Code.load(Code.common(1, 1, 6), Code.frame(0, 1, MAX));
        Check.same("find(MAX) of MAX places from 1 on", two.find(MAX), 1);
        Check.same("find(MIN) of MAX places from 1 on", two.find(MIN), -1);
    }

    private static void findUnsound() {
        FrameUnwinder x = frameWith(7, 0);
        Check.same("find(0)", x.find(0), 1);
        x.spoil(INSIDE + 1, 8);
        Check.refused("find(0)", IllegalStateException.class, () -> x.find(0));
        Check.refused("find(-1)", IllegalStateException.class, () -> x.find(-1));
        x.spoil(INSIDE + 1, 7);
        Check.same("find(0)", x.find(0), 1);
        x.feed(0);
        Check.refused("find(0) with bytes behind", IllegalStateException.class, () -> x.find(0));
    }

    private static void registersAndCfa() {
        FrameUnwinder x = frameWith(0x80, 1, 0x81, 2, 0x82, 3, 0x83, 4, 0x84, 5, 0x85, 6, 0x86, 7, 0x87, 8, 12, 3, 9);
        Expect.rule(x, 0, -1, CFA_REGISTER, 9, 3);
        for (int r = 0; r < 8; r++) {
            Expect.rule(x, 99, r, OFFSET, -4 * (r + 1), 0);
        }
    }

    private static FrameUnwinder everyKind() {
        return frameWith(7, 0, 8, 1, 5, 2, 1, 20, 3, 2, 9, 4, 5, 16, 5, 1, 0, 22, 6, 2, 0, 0);
    }

    private static void kinds() {
        FrameUnwinder x = everyKind();
        for (int r = 0; r < 7; r++) {
            Check.same("row(0, " + r + ", 0)", x.row(0, r, 0), r);
        }
    }

    private static void kindsOfCfa() {
        Check.same("row() of CFA that isn't told", frameWith().row(0, CFA, 0), 0);
        Check.same("row() of CFA as a register", frameWith(12, 0, 0).row(0, CFA, 0), 1);
        Check.same("row() of CFA as an expression", frameWith(15, 0).row(0, CFA, 0), 2);
    }

    private static void numbers() {
        FrameUnwinder x = everyKind();
        int[] due = {0, 0, -4, -8, 5, INSIDE + 16, INSIDE + 20};
        for (int r = 0; r < due.length; r++) {
            Check.same("row(0, " + r + ", 1)", x.row(0, r, 1), due[r]);
        }
        // What was told ahead leaves no number to UNDEFINED and SAME.
        FrameUnwinder y = frameWith(5, 0, 1, 7, 0, 5, 1, 1, 8, 1);
        Check.same("row() of UNDEFINED behind OFFSET", y.row(0, 0, 1), 0);
        Check.same("row() of SAME behind OFFSET", y.row(0, 1, 1), 0);
        Check.same("row() of CFA that isn't told", frameWith().row(0, CFA, 1), 0);
        Check.same("row() of CFA as a register", frameWith(12, 4, 9).row(0, CFA, 1), 9);
        Check.same("row() of CFA as an expression", frameWith(15, 0).row(0, CFA, 1), INSIDE + 2);
    }

    private static void seconds() {
        FrameUnwinder x = everyKind();
        int[] due = {0, 0, 0, 0, 0, 1, 2};
        for (int r = 0; r < due.length; r++) {
            Check.same("row(0, " + r + ", 2)", x.row(0, r, 2), due[r]);
        }
        for (int[] rule : new int[][] {{7, 0, 0}, {8, 0, 0}, {5, 0, 1}, {20, 0, 1}, {9, 0, 1}}) {
            FrameUnwinder y = frameWith(16, 0, 2, 0, 0, rule[0], rule[1], rule[2]);
            Check.same("row() of " + rule[0] + " behind an expression", y.row(0, 0, 2), 0);
        }
        Check.same("row() of CFA that isn't told", frameWith().row(0, CFA, 2), 0);
        Check.same("row() of CFA as a register", frameWith(12, 4, 9).row(0, CFA, 2), 4);
        Check.same("row() of CFA as an expression", frameWith(12, 4, 9, 15, 0).row(0, CFA, 2), 0);
        Check.same("row() of CFA as an expression", frameWith(15, 3, 0, 0, 0).row(0, CFA, 2), 3);
    }

    private static void rowUnsound() {
        FrameUnwinder x = frameWith(7, 0);
        x.spoil(INSIDE + 1, 8);
        Check.refused("row(0, 0, 0)", IllegalStateException.class, () -> x.row(0, 0, 0));
        Check.refused("row(100, 0, 0)", IllegalStateException.class, () -> x.row(100, 0, 0));
        Check.refused("row(0, 8, 3)", IllegalStateException.class, () -> x.row(0, 8, 3));
        x.spoil(INSIDE + 1, 7);
        Check.same("row(0, 7, 0)", x.row(0, 7, 0), UNDEFINED);
    }

    private static void rowNowhere() {
        FrameUnwinder x = frameWith();
        for (int pc : new int[] {100, -1, MIN, MAX}) {
            Check.refused("row(" + pc + ", 0, 0)", NoSuchElementException.class, () -> x.row(pc, 0, 0));
        }
        Check.same("row(99, 0, 0)", x.row(99, 0, 0), SAME);
        FrameUnwinder empty = new FrameUnwinder();
        Check.refused("row(0, 0, 0) of nothing", NoSuchElementException.class, () -> empty.row(0, 0, 0));
        FrameUnwinder none = Code.load(Code.common(1, 1, 6), Code.frame(0, 5, 0));
        Check.refused("row(5, 0, 0) of no range", NoSuchElementException.class, () -> none.row(5, 0, 0));
    }

    private static void rowOfNoRegister() {
        FrameUnwinder x = frameWith();
        for (int r : new int[] {-2, 8, 9, MIN, MAX}) {
            for (int what = 0; what < 3; what++) {
                int asked = what;
                Check.refused("row(0, " + r + ", " + what + ")", IllegalArgumentException.class,
                    () -> x.row(0, r, asked));
            }
        }
        Check.same("row(0, -1, 0)", x.row(0, -1, 0), 0);
        Check.same("row(0, 7, 0)", x.row(0, 7, 0), VALUE);
    }

    private static void rowOfNothing() {
        FrameUnwinder x = frameWith(16, 0, 1, 0);
        for (int what : new int[] {-1, 3, MIN, MAX}) {
            Check.refused("row(0, 0, " + what + ")", IllegalArgumentException.class, () -> x.row(0, 0, what));
            Check.refused("row(0, -1, " + what + ")", IllegalArgumentException.class, () -> x.row(0, -1, what));
        }
        Expect.rule(x, 0, 0, EXPRESSION, INSIDE + 3, 1);
    }
}
