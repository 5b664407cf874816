import java.util.NoSuchElementException;

/** Promises 7 (find) and 8 (row). */
public final class RowTest {
    private static final int UNDEFINED = 0;
    private static final int SAME = 1;
    private static final int OFFSET = 2;
    private static final int VALUE = 3;
    private static final int REGISTER = 4;
    private static final int EXPRESSION = 5;
    private static final int VALUE_EXPRESSION = 6;
    private static final int CFA = -1;

    private RowTest() {
    }

    public static void main(String[] args) {
        finding();
        findingWithoutSign();
        refusals();
        rulesAtFirst();
        rulesOfRegisters();
        numbersOfRules();
        rulesOfCfa();
        cfaThatWasNotTold();
        places();
        placesWithoutSign();
        commonRulesAgain();
        rememberedRows();
        eachFrameHasItsCommonEntry();
        nothingStaysFromCallsBefore();
        Check.finish();
    }

    /** A common entry of 12 bytes with factors 1 and -4, and a frame entry for the places 0 .. 99. */
    private static FrameUnwinder frameWith(int... instructions) {
        return Code.load(Code.common(1, -4, 6), Code.frame(0, 0, 100, instructions));
    }

    /** Where the instructions of frameWith() begin. */
    private static final int INSIDE = 28;

    private static void finding() {
        FrameUnwinder x = Code.load(Code.common(1, -4, 6), Code.frame(0, 10, 5), Code.frame(0, 12, 20),
            Code.common(1, 1, 1), Code.frame(44, 30, 0), Code.frame(44, 40, 1));
        int[][] due = {{9, -1}, {10, 1}, {12, 1}, {14, 1}, {15, 2}, {30, 2}, {31, 2}, {32, -1}, {39, -1},
            {40, 5}, {41, -1}, {0, -1}, {-1, -1}, {Integer.MIN_VALUE, -1}, {Integer.MAX_VALUE, -1}};
        for (int[] pair : due) {
            Check.same("find(" + pair[0] + ")", x.find(pair[0]), pair[1]);
        }
    }

    private static void findingWithoutSign() {
        int most = Integer.MAX_VALUE;
        FrameUnwinder x = Code.load(Code.common(1, -4, 6), Code.frame(0, most, most));
        Check.same("find(MAX - 1)", x.find(most - 1), -1);
        Check.same("find(MAX)", x.find(most), 1);
        Check.same("find(MIN)", x.find(Integer.MIN_VALUE), 1);
        Check.same("find(-3)", x.find(-3), 1);
        Check.same("find(-2)", x.find(-2), -1);
        Check.same("find(-1)", x.find(-1), -1);
        Check.same("find(0)", x.find(0), -1);
        Expect.rule(x, -3, 0, SAME, 0, 0);
        FrameUnwinder y = Code.load(Code.common(1, -4, 6), Code.frame(0, 0, most));
        Check.same("find(MAX - 1)", y.find(most - 1), 1);
        Check.same("find(MAX)", y.find(most), -1);
        Check.same("find(-1)", y.find(-1), -1);
    }

    private static void refusals() {
        FrameUnwinder x = frameWith();
        for (int r : new int[] {-2, 8, Integer.MIN_VALUE, Integer.MAX_VALUE}) {
            Check.refused("row(0, " + r + ", 0)", IllegalArgumentException.class, () -> x.row(0, r, 0));
        }
        for (int what : new int[] {-1, 3, Integer.MIN_VALUE, Integer.MAX_VALUE}) {
            Check.refused("row(0, 0, " + what + ")", IllegalArgumentException.class,
                () -> x.row(0, 0, what));
        }
        Check.refused("row(100, 0, 0)", NoSuchElementException.class, () -> x.row(100, 0, 0));
        Check.refused("row(-1, 0, 0)", NoSuchElementException.class, () -> x.row(-1, 0, 0));
        Check.refused("row(100, 8, 3)", NoSuchElementException.class, () -> x.row(100, 8, 3));
        FrameUnwinder y = new FrameUnwinder();
        Check.refused("row() of nothing", NoSuchElementException.class, () -> y.row(0, 0, 0));
        y.feed(0);
        Check.refused("row(0, 0, 0)", IllegalStateException.class, () -> y.row(0, 0, 0));
        Check.refused("row(0, 8, 3)", IllegalStateException.class, () -> y.row(0, 8, 3));
        Check.refused("find(0)", IllegalStateException.class, () -> y.find(0));
    }

    private static void rulesAtFirst() {
        for (int back = 0; back < 8; back++) {
            FrameUnwinder x = Code.load(Code.common(1, 1, back), Code.frame(0, 0, 1));
            for (int r = 0; r < 8; r++) {
                Expect.rule(x, 0, r, r == back ? UNDEFINED : r == 7 ? VALUE : SAME, 0, 0);
            }
            Expect.rule(x, 0, CFA, 0, 0, 0);
        }
    }

    private static void rulesOfRegisters() {
        FrameUnwinder x = frameWith(5, 0, 3, 7, 1, 8, 6, 9, 2, 5, 16, 3, 2, 0, 0, 20, 4, 3, 22, 5, 1, 0,
            0x87, 2);
        Expect.rule(x, 0, 0, OFFSET, -12, 0);
        Expect.rule(x, 0, 1, UNDEFINED, 0, 0);
        Expect.rule(x, 0, 2, REGISTER, 5, 0);
        Expect.rule(x, 0, 3, EXPRESSION, INSIDE + 13, 2);
        Expect.rule(x, 0, 4, VALUE, -12, 0);
        Expect.rule(x, 0, 5, VALUE_EXPRESSION, INSIDE + 21, 1);
        Expect.rule(x, 0, 6, SAME, 0, 0);
        Expect.rule(x, 0, 7, OFFSET, -8, 0);
        FrameUnwinder y = frameWith(16, 3, 2, 0, 0, 5, 3, 1, 22, 4, 3, 0, 0, 0, 7, 4, 20, 5, 1, 8, 5,
            9, 2, 7, 9, 2, 1, 22, 1, 0);
        Expect.rule(y, 0, 3, OFFSET, -4, 0);
        Expect.rule(y, 0, 4, UNDEFINED, 0, 0);
        Expect.rule(y, 0, 5, SAME, 0, 0);
        Expect.rule(y, 0, 2, REGISTER, 1, 0);
        Expect.rule(y, 0, 1, VALUE_EXPRESSION, INSIDE + 30, 0);
    }

    private static void numbersOfRules() {
        FrameUnwinder x = frameWith(17, 0, 0x7D, 17, 1, 3, 21, 2, 0x7F, 21, 3, 0xC0, 0,
            5, 4, 0xFF, 1, 0x85, 0x80, 2, 20, 7, 0xFF, 0xFF, 0xFF, 0xFF, 0x0F);
        Expect.rule(x, 0, 0, OFFSET, 12, 0);
        Expect.rule(x, 0, 1, OFFSET, -12, 0);
        Expect.rule(x, 0, 2, VALUE, 4, 0);
        Expect.rule(x, 0, 3, VALUE, -256, 0);
        Expect.rule(x, 0, 4, OFFSET, -1020, 0);
        Expect.rule(x, 0, 5, OFFSET, -1024, 0);
        Expect.rule(x, 0, 7, VALUE, 4, 0);
        FrameUnwinder y = Code.load(Code.common(1, 1, 6), Code.frame(0, 0, 1, 17, 0, 0xFF, 0xFF, 0xFF, 0x7F,
            17, 1, 0xFF, 0xFF, 0xFF, 0x3F, 17, 2, 0x80, 0x80, 0x80, 0x80, 0x08,
            17, 3, 0xFF, 0xFF, 0xFF, 0xFF, 0x40, 17, 4, 0x80, 0x80, 0x80, 0x80, 0x78,
            17, 5, 0xFF, 0xFF, 0x40, 5, 7, 0xFF, 0xFF, 0xFF, 0xFF, 0x7F));
        Expect.rule(y, 0, 0, OFFSET, -1, 0);
        Expect.rule(y, 0, 1, OFFSET, (1 << 27) - 1, 0);
        Expect.rule(y, 0, 2, OFFSET, Integer.MIN_VALUE, 0);
        Expect.rule(y, 0, 3, OFFSET, (1 << 28) - 1, 0);
        Expect.rule(y, 0, 4, OFFSET, Integer.MIN_VALUE, 0);
        Expect.rule(y, 0, 5, OFFSET, -(1 << 20) + (1 << 14) - 1, 0);
        Expect.rule(y, 0, 7, OFFSET, -1, 0);
        FrameUnwinder z = Code.load(Code.common(1, 0x40000001, 6), Code.frame(0, 0, 1, 0x80, 6, 20, 1, 6));
        Expect.rule(z, 0, 0, OFFSET, -0x7FFFFFFA, 0);
        Expect.rule(z, 0, 1, VALUE, -0x7FFFFFFA, 0);
    }

    private static void rulesOfCfa() {
        Expect.rule(frameWith(12, 5, 0x83, 1), 0, CFA, 1, 131, 5);
        Expect.rule(frameWith(18, 5, 0x7D), 0, CFA, 1, 12, 5);
        Expect.rule(frameWith(12, 5, 3, 13, 2), 0, CFA, 1, 3, 2);
        Expect.rule(frameWith(12, 5, 3, 14, 9), 0, CFA, 1, 9, 5);
        Expect.rule(frameWith(12, 5, 3, 19, 9), 0, CFA, 1, -36, 5);
        Expect.rule(frameWith(12, 5, 3, 19, 0x7F), 0, CFA, 1, 4, 5);
        Expect.rule(frameWith(12, 5, 3, 12, 1, 2), 0, CFA, 1, 2, 1);
        Expect.rule(frameWith(15, 3, 0, 0, 0), 0, CFA, 2, INSIDE + 2, 3);
        Expect.rule(frameWith(0, 12, 5, 3, 15, 0), 0, CFA, 2, INSIDE + 6, 0);
        Expect.rule(frameWith(15, 1, 0, 12, 4, 8), 0, CFA, 1, 8, 4);
        Expect.rule(frameWith(15, 1, 0, 15, 2, 0, 0), 0, CFA, 2, INSIDE + 5, 2);
        FrameUnwinder x = Code.load(Code.common(1, 4, 6, 12, 7, 4), Code.frame(0, 0, 9, 0x42, 13, 1, 0x42, 14, 8));
        Expect.rule(x, 1, CFA, 1, 4, 7);
        Expect.rule(x, 2, CFA, 1, 4, 1);
        Expect.rule(x, 4, CFA, 1, 8, 1);
        Expect.rule(x, 0, 0, SAME, 0, 0);
    }

    private static void cfaThatWasNotTold() {
        Expect.rule(frameWith(13, 5), 0, CFA, 1, 0, 5);
        Expect.rule(frameWith(14, 5), 0, CFA, 1, 5, 0);
        Expect.rule(frameWith(19, 5), 0, CFA, 1, -20, 0);
        Expect.rule(frameWith(15, 2, 0, 0, 13, 5), 0, CFA, 1, 0, 5);
        Expect.rule(frameWith(15, 2, 0, 0, 14, 5), 0, CFA, 1, 5, 0);
        Expect.rule(frameWith(15, 2, 0, 0, 19, 5), 0, CFA, 1, -20, 0);
        Expect.rule(frameWith(13, 5, 14, 9), 0, CFA, 1, 9, 5);
        Expect.rule(frameWith(14, 9, 13, 5), 0, CFA, 1, 9, 5);
        Expect.rule(frameWith(10, 12, 5, 3, 11, 13, 2), 0, CFA, 1, 0, 2);
        Expect.rule(Code.load(Code.common(1, 1, 6, 13, 3), Code.frame(0, 0, 1, 19, 7)), 0, CFA, 1, 7, 3);
    }

    private static void places() {
        FrameUnwinder x = Code.load(Code.common(3, 1, 6), Code.frame(0, 10, 10000,
            7, 0, 0x42, 7, 1, 2, 200, 7, 2, 3, 0, 1, 7, 3, 4, 0xE8, 3, 0, 0, 7, 4, 1, 0x88, 0x13, 0, 0, 7, 5));
        int[] begins = {10, 16, 616, 1384, 4384, 5000};
        for (int r = 0; r < begins.length; r++) {
            int at = begins[r];
            Check.same("row(" + at + ", " + r + ", 0)", x.row(at, r, 0), UNDEFINED);
            if (r > 0) {
                Check.same("row(" + (at - 1) + ", " + r + ", 0)", x.row(at - 1, r, 0), SAME);
            }
        }
        FrameUnwinder back = Code.load(Code.common(1, 1, 6),
            Code.frame(0, 10, 50, 0x4A, 7, 1, 1, 5, 0, 0, 0, 7, 2, 0x48, 7, 3));
        Expect.rule(back, 10, 2, SAME, 0, 0);
        Expect.rule(back, 19, 2, SAME, 0, 0);
        Expect.rule(back, 20, 1, UNDEFINED, 0, 0);
        Expect.rule(back, 20, 2, UNDEFINED, 0, 0);
        Expect.rule(back, 20, 3, UNDEFINED, 0, 0);
        FrameUnwinder still = Code.load(Code.common(0, 1, 6), Code.frame(0, 10, 1, 0x7F, 7, 1, 2, 9, 7, 2));
        Expect.rule(still, 10, 1, UNDEFINED, 0, 0);
        Expect.rule(still, 10, 2, UNDEFINED, 0, 0);
    }

    private static void placesWithoutSign() {
        int most = Integer.MAX_VALUE;
        FrameUnwinder x = Code.load(Code.common(1, 1, 6), Code.frame(0, most, most, 0x45, 7, 1, 0x41, 7, 2));
        Expect.rule(x, most, 1, SAME, 0, 0);
        Expect.rule(x, most + 4, 1, SAME, 0, 0);
        Expect.rule(x, most + 5, 1, UNDEFINED, 0, 0);
        Expect.rule(x, most + 5, 2, SAME, 0, 0);
        Expect.rule(x, -3, 2, UNDEFINED, 0, 0);
        FrameUnwinder high = Code.load(Code.common(1, 1, 6), Code.frame(0, 0, 9, 4, 255, 255, 255, 255, 7, 1));
        Expect.rule(high, 8, 1, SAME, 0, 0);
        FrameUnwinder wraps = Code.load(Code.common(-1, 1, 6), Code.frame(0, 9, 9, 0x44, 7, 1, 0x46, 7, 2));
        Expect.rule(wraps, 9, 1, UNDEFINED, 0, 0);
        Expect.rule(wraps, 17, 2, SAME, 0, 0);
        FrameUnwinder factor = Code.load(Code.common(0x40000000, 1, 6), Code.frame(0, 9, 9, 2, 4, 7, 1, 2, 2, 7, 2));
        Expect.rule(factor, 9, 1, UNDEFINED, 0, 0);
        Expect.rule(factor, 17, 2, SAME, 0, 0);
    }

    private static void commonRulesAgain() {
        FrameUnwinder x = Code.load(
            Code.common(1, 2, 6, 5, 1, 4, 20, 2, 5, 16, 3, 1, 0, 9, 6, 4),
            Code.frame(0, 0, 9, 7, 1, 7, 2, 7, 3, 7, 4, 7, 5, 7, 6, 7, 7,
                0x41, 6, 1, 6, 4, 0xC5, 0xC7, 6, 3, 0xC6));
        for (int r = 1; r < 8; r++) {
            Expect.rule(x, 0, r, UNDEFINED, 0, 0);
        }
        Expect.rule(x, 1, 1, OFFSET, 8, 0);
        Expect.rule(x, 1, 2, UNDEFINED, 0, 0);
        Expect.rule(x, 1, 3, EXPRESSION, 21, 1);
        Expect.rule(x, 1, 4, SAME, 0, 0);
        Expect.rule(x, 1, 5, SAME, 0, 0);
        Expect.rule(x, 1, 6, REGISTER, 4, 0);
        Expect.rule(x, 1, 7, VALUE, 0, 0);
        FrameUnwinder y = frameWith(8, 6, 8, 7, 0xC6, 0xC7);
        Expect.rule(y, 0, 6, UNDEFINED, 0, 0);
        Expect.rule(y, 0, 7, VALUE, 0, 0);
    }

    private static void rememberedRows() {
        FrameUnwinder x = frameWith(12, 7, 4, 10, 12, 6, 8, 7, 1, 10, 15, 1, 0, 16, 1, 1, 0,
            0x41, 11, 0x41, 11, 0x41, 7, 2);
        Expect.rule(x, 0, CFA, 2, INSIDE + 12, 1);
        Expect.rule(x, 0, 1, EXPRESSION, INSIDE + 16, 1);
        Expect.rule(x, 1, CFA, 1, 8, 6);
        Expect.rule(x, 1, 1, UNDEFINED, 0, 0);
        Expect.rule(x, 2, CFA, 1, 4, 7);
        Expect.rule(x, 2, 1, SAME, 0, 0);
        Expect.rule(x, 2, 2, SAME, 0, 0);
        Expect.rule(x, 3, 2, UNDEFINED, 0, 0);
        FrameUnwinder four = frameWith(10, 7, 0, 10, 7, 1, 10, 7, 2, 10, 7, 3, 0x41, 11, 0x41, 11, 0x41, 11,
            0x41, 11);
        for (int pc = 0; pc <= 4; pc++) {
            for (int r = 0; r < 4; r++) {
                Check.same("row(" + pc + ", " + r + ", 0)", four.row(pc, r, 0), r < 4 - pc ? UNDEFINED : SAME);
            }
        }
    }

    private static void eachFrameHasItsCommonEntry() {
        FrameUnwinder x = Code.load(
            Code.common(1, 2, 6, 12, 1, 1, 7, 0), Code.common(4, 8, 5, 12, 2, 2),
            Code.frame(0, 0, 10, 0x42, 0x81, 1), Code.frame(17, 10, 10, 0x42, 0x81, 1));
        Check.same("fault()", x.fault(), -1);
        Expect.rule(x, 2, CFA, 1, 1, 1);
        Expect.rule(x, 2, 0, UNDEFINED, 0, 0);
        Expect.rule(x, 2, 1, OFFSET, 2, 0);
        Expect.rule(x, 2, 5, SAME, 0, 0);
        Expect.rule(x, 17, CFA, 1, 2, 2);
        Expect.rule(x, 17, 0, SAME, 0, 0);
        Expect.rule(x, 17, 1, SAME, 0, 0);
        Expect.rule(x, 18, 1, OFFSET, 8, 0);
        Expect.rule(x, 18, 5, UNDEFINED, 0, 0);
        Expect.rule(x, 18, 6, SAME, 0, 0);
    }

    private static void nothingStaysFromCallsBefore() {
        byte[] common = Code.common(1, 1, 6);
        FrameUnwinder x = Code.load(common,
            Code.frame(0, 0, 10, 10, 12, 3, 4, 16, 0, 1, 0, 10), Code.frame(0, 10, 10, 10, 11));
        Expect.rule(x, 0, CFA, 1, 4, 3);
        Expect.rule(x, 0, 0, EXPRESSION, 35, 1);
        Expect.rule(x, 10, CFA, 0, 0, 0);
        Expect.rule(x, 10, 0, SAME, 0, 0);
        Expect.rule(x, 0, CFA, 1, 4, 3);
        Check.same("find(0)", x.find(0), 1);
        Check.same("find(10)", x.find(10), 2);
        x.end(common.length);
        Check.same("find(0) of a cut section", x.find(0), -1);
        Check.same("find(10) of a cut section", x.find(10), -1);
    }
}
