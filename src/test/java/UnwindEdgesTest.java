import java.util.Arrays;

/** Each edge that the document names of frames and unwinding: promise 14. */
public final class UnwindEdgesTest {
    private static final int MIN = Integer.MIN_VALUE;
    private static final int MAX = Integer.MAX_VALUE;
    private static final int FUEL = 1;
    private static final int BYTES = 2;
    private static final int STACK = 3;
    private static final int READ = 4;
    private static final int DIVISION = 5;
    private static final int NOT_TOLD = 6;
    private static final int BASE = 10;

    private UnwindEdgesTest() {
    }

    public static void main(String[] args) {
        entriesOfFrames();
        rules();
        refusals();
        calls();
        Check.finish();
    }

    private static void entriesOfFrames() {
        Check.sentence("The entry of a frame is the first frame entry with first <= p < first + range",
            UnwindEdgesTest::firstEntry);
        Check.sentence("(without sign, without wrapping)", UnwindEdgesTest::withoutSign);
        Check.sentence("p being pc, or, for callers' frames, pc - 1.", UnwindEdgesTest::callersPlaces);
        Check.sentence("if there is no entry", UnwindEdgesTest::noEntry);
        Check.sentence("or the rule of its common entry's return register is UNDEFINED, the frame is the BASE.",
            UnwindEdgesTest::undefinedReturn);
    }

    private static void rules() {
        Check.sentence("CFA is reckoned", UnwindEdgesTest::cfa);
        Check.sentence("UNDEFINED not known", UnwindEdgesTest::undefined);
        Check.sentence("SAME as it is", UnwindEdgesTest::same);
        Check.sentence("OFFSET n the word at CFA + n", UnwindEdgesTest::offset);
        Check.sentence("VALUE n CFA + n", UnwindEdgesTest::values);
        Check.sentence("REGISTER r what r has (not known if that isn't)", UnwindEdgesTest::otherRegister);
        Check.sentence("EXPRESSION, VALUE EXPRESSION: with CFA on the stack, the word at its value, its value.",
            UnwindEdgesTest::expressions);
        Check.sentence("156 CFA (where there is one).", UnwindEdgesTest::cfaInExpressions);
        Check.sentence("The caller's pc is what its return register has.", UnwindEdgesTest::callersPc);
    }

    private static void refusals() {
        Check.sentence("If something fails, the step is refused.", UnwindEdgesTest::somethingFails);
        Check.sentence("or CFA isn't told (6)", UnwindEdgesTest::cfaNotTold);
        Check.sentence("or its register isn't known (4)", UnwindEdgesTest::cfaRegisterUnknown);
        Check.sentence("or the caller's pc isn't known (4)", UnwindEdgesTest::callersPcUnknown);
    }

    private static void calls() {
        Check.sentence("Unwinds, each expression with so much fuel", UnwindEdgesTest::fuelOfEach);
        Check.sentence("0 to the caller's frame", UnwindEdgesTest::toTheCaller);
        Check.sentence("10 it is the base, also if there is no entry (nothing changes)",
            UnwindEdgesTest::baseChangesNothing);
        Check.sentence("1 .. 6 it is refused (nothing changes).", UnwindEdgesTest::refusedChangesNothing);
        Check.sentence("unwind: IllegalStateException if the section isn't sound", UnwindEdgesTest::unsound);
        Check.sentence("unwind: IllegalArgumentException if fuel is not 0 .. 2000.", UnwindEdgesTest::noSuchFuel);
    }

    /**
     * An object at pc 0 with registers 0, 10, 20 .. 70, words that hold ten times their address, and
     * one frame entry for the places 0 .. 99 whose common entry has the factors 1 and 4 and the return
     * register 6, which stays the same.
     */
    private static FrameUnwinder frameWith(int... instructions) {
        return filled(Code.common(1, 4, 6, 8, 6), Code.frame(0, 0, 100, instructions));
    }

    private static FrameUnwinder filled(byte[]... parts) {
        FrameUnwinder x = Code.load(parts);
        for (int r = 0; r < 8; r++) {
            x.register(r, 10 * r);
        }
        for (int address = 0; address < 128; address += 4) {
            x.word(address, 10 * address);
        }
        return x;
    }

    /** Three frame entries, told by the register 7 of their callers: 1, 2 or 3 more. */
    private static FrameUnwinder threeEntries() {
        return Code.load(Code.common(1, 4, 6, 8, 6), Code.frame(0, 10, 10, 12, 7, 1), Code.frame(0, 15, 15, 12, 7, 2),
            Code.frame(0, 0, 35, 12, 7, 3));
    }

    private static void firstEntry() {
        FrameUnwinder x = threeEntries();
        int[][] due = {{0, 3}, {9, 3}, {10, 1}, {15, 1}, {19, 1}, {20, 2}, {29, 2}, {30, 3}, {34, 3}};
        for (int[] pair : due) {
            x.register(7, 100);
            x.start(pair[0]);
            Check.same("unwind() at " + pair[0], x.unwind(0), 0);
            Check.same("get(7) from " + pair[0], x.get(7), 100 + pair[1]);
        }
        x.start(35);
        Check.same("unwind() at 35", x.unwind(0), BASE);
    }

    private static void withoutSign() {
        FrameUnwinder x = Code.load(Code.common(1, 4, 6, 8, 6, 12, 7, 1), Code.frame(0, MAX, MAX, 0x42, 14, 2));
        int[][] due = {{MAX - 1, -1}, {MAX, 1}, {MIN, 1}, {MIN + 1, 2}, {-3, 2}, {-2, -1}, {-1, -1}, {0, -1}};
        for (int[] pair : due) {
            x.register(7, 100);
            x.start(pair[0]);
            Check.same("unwind() at " + pair[0], x.unwind(0), pair[1] < 0 ? BASE : 0);
            Check.same("get(7) from " + pair[0], x.get(7), pair[1] < 0 ? 100 : 100 + pair[1]);
        }
    }

    private static void callersPlaces() {
        FrameUnwinder x = threeEntries();
        int[][] due = {{1, 3}, {10, 3}, {11, 1}, {20, 1}, {21, 2}, {30, 2}, {31, 3}, {35, 3}, {36, -1}, {0, -1},
            {MIN, -1}};
        for (int[] pair : due) {
            x.register(6, pair[0]);
            x.start(0);
            Check.same("unwind() to a caller at " + pair[0], x.unwind(0), 0);
            x.register(7, 100);
            Check.same("unwind() from a caller at " + pair[0], x.unwind(0), pair[1] < 0 ? BASE : 0);
            Check.same("get(7) of the caller's caller", x.get(7), pair[1] < 0 ? 100 : 100 + pair[1]);
        }
        // The row of a caller's frame is that of its place, too: the call at 4 has the row of 4, not 5.
        FrameUnwinder y = frameWith(12, 7, 1, 0x45, 14, 2);
        y.register(6, 5);
        Check.same("unwind()", y.unwind(0), 0);
        Check.same("unwind()", y.unwind(0), 0);
        Check.same("get(7)", y.get(7), 72);
        // It is a first frame again from start() on.
        y.start(5);
        Check.same("unwind()", y.unwind(0), 0);
        Check.same("get(7)", y.get(7), 74);
    }

    private static void noEntry() {
        Expect.stays(BASE, new FrameUnwinder(), 0, "nothing");
        Expect.stays(BASE, filled(Code.common(1, 4, 6, 8, 6)), 0, "a common entry alone");
        Expect.stays(BASE, filled(Code.common(1, 4, 6, 8, 6), Code.frame(0, 0, 0)), 0, "a frame entry of no range");
        FrameUnwinder x = frameWith(12, 7, 0);
        x.start(100);
        Expect.stays(BASE, x, 0, "a place behind the entry");
        x.start(-1);
        Expect.stays(BASE, x, 0, "the highest place");
    }

    private static void undefinedReturn() {
        for (int back = 0; back < 8; back++) {
            byte[] frame = Code.frame(0, 0, 9, 0x45, 8, back, 0x43, 7, back);
            FrameUnwinder x = filled(Code.common(1, 4, back, 12, 1, 2), frame);
            Expect.stays(BASE, x, 0, "return register " + back + " at first");
            x.start(8);
            Expect.stays(BASE, x, 0, "return register " + back + " in the end");
            x.start(5);
            Check.same("unwind() between, by register " + back, x.unwind(0), 0);
        }
        // It is the base whatever else would fail.
        Expect.stays(BASE, frameWith(7, 6), 0, "CFA that isn't told");
        Expect.stays(BASE, frameWith(7, 6, 15, 1, 255), 0, "CFA that fails");
        Expect.stays(BASE, frameWith(7, 6, 12, 7, 1, 5, 0, 0), 0, "a word that can't be read");
        // Another register that is UNDEFINED doesn't make it the base.
        Check.same("unwind() with register 5 UNDEFINED", frameWith(12, 7, 0, 7, 5).unwind(0), 0);
        // Nor does a rule by a register that isn't known.
        FrameUnwinder y = frameWith(12, 7, 0, 7, 5, 0x45, 9, 6, 5);
        Check.same("unwind()", y.unwind(0), 0);
        y.start(5);
        Expect.stays(READ, y, 0, "a return register by another one that isn't known");
    }

    private static void cfaIs(int due, FrameUnwinder x) {
        Check.same("unwind()", x.unwind(9), 0);
        Check.same("get(7), which is CFA", x.get(7), due);
    }

    private static void cfa() {
        cfaIs(0, frameWith(12, 0, 0));
        cfaIs(70, frameWith(12, 7, 0));
        cfaIs(197, frameWith(12, 7, 127));
        cfaIs(69, frameWith(12, 7, 255, 255, 255, 255, 15));
        cfaIs(66, frameWith(18, 7, 127));
        cfaIs(-186, frameWith(18, 7, 64));
        FrameUnwinder x = frameWith(12, 3, 1);
        x.register(3, MAX);
        cfaIs(MIN, x);
        cfaIs(31, frameWith(15, 1, 79));
        cfaIs(45, frameWith(15, 2, 117, 123));
        cfaIs(400, frameWith(15, 3, 8, 40, 6));
    }

    private static void undefined() {
        FrameUnwinder x = frameWith(12, 7, 0, 7, 0, 7, 3, 7, 7);
        Check.same("unwind()", x.unwind(0), 0);
        Expect.frame("with 0, 3 and 7 lost", x, 0, 10, 20, 0, 40, 50, 60, 0, 60, 118, 1);
    }

    private static void same() {
        FrameUnwinder x = frameWith(12, 7, 0, 7, 0, 0x45, 8, 7, 8, 0);
        Check.same("unwind()", x.unwind(0), 0);
        x.register(7, -3);
        x.start(5);
        Check.same("unwind()", x.unwind(0), 0);
        Expect.frame("with all the same, 0 not known", x, 0, 10, 20, 30, 40, 50, 60, -3, 60, 254, 1);
    }

    private static void offset() {
        FrameUnwinder x = frameWith(12, 0, 4, 17, 1, 127, 5, 2, 0, 5, 3, 254, 1);
        x.word(0, -7);
        x.word(1020, -9);
        Check.same("unwind()", x.unwind(0), 0);
        Expect.frame("with the words at 0, 4 and 1020", x, 0, -7, 40, -9, 40, 50, 60, 4, 60, 255, 1);
        Expect.stays(READ, frameWith(12, 0, 0, 17, 1, 127), 0, "a word at -4");
        Expect.stays(READ, frameWith(12, 0, 0, 5, 1, 128, 2), 0, "a word at 1024");
        for (int odd = 1; odd < 4; odd++) {
            Expect.stays(READ, frameWith(12, 0, odd, 5, 1, 0), 0, "a word at " + odd);
        }
        // CFA + n wraps: -4 and 8.
        FrameUnwinder wraps = frameWith(12, 5, 0, 5, 1, 2);
        wraps.register(5, -4);
        Check.same("unwind()", wraps.unwind(0), 0);
        Check.same("get(1)", wraps.get(1), 40);
    }

    private static void values() {
        FrameUnwinder x = frameWith(12, 7, 0, 20, 0, 0, 20, 1, 127, 21, 2, 64);
        Check.same("unwind()", x.unwind(0), 0);
        Expect.frame("with values", x, 70, 578, -186, 30, 40, 50, 60, 70, 60, 255, 1);
        FrameUnwinder wraps = frameWith(12, 5, 0, 20, 1, 1);
        wraps.register(5, MAX);
        Check.same("unwind()", wraps.unwind(0), 0);
        Check.same("get(1)", wraps.get(1), MIN + 3);
    }

    private static void otherRegister() {
        FrameUnwinder x = frameWith(12, 7, 3, 9, 0, 1, 9, 1, 0, 9, 2, 7, 9, 3, 3, 0x45, 7, 5, 0x45, 6, 5, 9, 4, 5);
        Check.same("unwind()", x.unwind(0), 0);
        Expect.frame("with registers of the frame before", x, 10, 0, 70, 30, 40, 50, 60, 73, 60, 255, 1);
        x.start(5);
        Check.same("unwind()", x.unwind(0), 0);
        Check.same("get(9) with 5 lost", x.get(9), 223);
        x.start(10);
        Check.same("unwind()", x.unwind(0), 0);
        Check.same("get(9) with 4 lost by 5", x.get(9), 207);
        Check.same("get(4)", x.get(4), 0);
    }

    private static void expressions() {
        FrameUnwinder x = frameWith(12, 7, 2, 16, 0, 0, 22, 1, 0, 16, 2, 2, 35, 4, 22, 3, 2, 35, 4, 22, 4, 2, 18, 34,
            16, 5, 2, 112, 8);
        Check.same("unwind()", x.unwind(2), 0);
        Expect.frame("of expressions", x, 720, 72, 760, 76, 144, 80, 60, 72, 60, 255, 1);
        for (int rule : new int[] {16, 22}) {
            Expect.stays(STACK, frameWith(12, 7, 2, rule, 0, 1, 19), 9, "CFA taken off by " + rule);
            Expect.stays(STACK, frameWith(12, 7, 2, rule, 0, 1, 34), 9, "CFA alone by " + rule);
            int[] full = {12, 7, 2, rule, 0, 15, 52, 52, 52, 52, 52, 52, 52, 52, 52, 52, 52, 52, 52, 52, 52};
            Check.same("unwind() of CFA and 15 numbers", frameWith(full).unwind(15), 0);
            int[] more = {12, 7, 2, rule, 0, 16, 52, 52, 52, 52, 52, 52, 52, 52, 52, 52, 52, 52, 52, 52, 52, 52};
            Expect.stays(STACK, frameWith(more), 16, "CFA and 16 numbers by " + rule);
            more[more.length - 1] = 156;
            Expect.stays(STACK, frameWith(more), 16, "CFA, 15 numbers and CFA by " + rule);
        }
        for (int address : new int[] {-4, -3, 2, 1022, 1024}) {
            int[] code = {12, 7, 2, 16, 0, 4, 11, address & 255, address >> 8 & 255, 150};
            Expect.stays(READ, frameWith(code), 9, "an EXPRESSION of " + address);
            code[3] = 22;
            FrameUnwinder y = frameWith(code);
            Check.same("unwind() of a VALUE EXPRESSION of " + address, y.unwind(9), 0);
            Check.same("get(0)", y.get(0), address);
        }
    }

    private static void cfaInExpressions() {
        FrameUnwinder x = frameWith(12, 7, 2, 22, 0, 2, 19, 156, 16, 1, 2, 156, 150, 22, 2, 2, 156, 34);
        Check.same("unwind()", x.unwind(9), 0);
        Expect.frame("with CFA in expressions", x, 72, 720, 144, 30, 40, 50, 60, 72, 60, 255, 1);
        Expect.stays(BYTES, frameWith(15, 1, 156), 9, "CFA in its own expression");
        Expect.stays(BYTES, frameWith(15, 3, 49, 156, 34, 22, 0, 1, 156), 9, "CFA in its own expression, too");
        FrameUnwinder y = frameWith(12, 7, 2, 22, 7, 1, 156, 0x45, 15, 1, 156);
        Check.same("unwind()", y.unwind(9), 0);
        y.start(5);
        Expect.stays(BYTES, y, 9, "the CFA of the step before");
    }

    private static void callersPc() {
        for (int back = 0; back < 8; back++) {
            byte[] common = Code.common(1, 4, back, 12, 1, 2, 5, back, 1);
            FrameUnwinder x = filled(common, Code.frame(0, 0, 9));
            Check.same("unwind() by register " + back, x.unwind(0), 0);
            Check.same("get(8)", x.get(8), 160);
            Check.same("get(" + back + ")", x.get(back), 160);
        }
        // The return register is that of the entry's own common one, and the caller's, not the frame's.
        byte[] one = Code.common(1, 4, 6, 12, 1, 2, 9, 6, 3);
        FrameUnwinder x = filled(one, Code.common(1, 4, 5, 12, 1, 2, 9, 5, 4), Code.frame(one.length, 0, 9),
            Code.frame(0, 9, 9));
        Check.same("unwind()", x.unwind(0), 0);
        Check.same("get(8)", x.get(8), 40);
        x.start(9);
        Check.same("unwind()", x.unwind(0), 0);
        Check.same("get(8)", x.get(8), 30);
        FrameUnwinder zero = frameWith(12, 7, 0);
        zero.register(6, 0);
        Check.same("unwind() to 0", zero.unwind(0), 0);
        Check.same("get(8)", zero.get(8), 0);
    }

    private static void somethingFails() {
        int[][] failing = {{FUEL, 49, 49, 49}, {BYTES, 255, 49, 49}, {STACK, 19, 19, 49}, {READ, 49, 6, 49},
            {DIVISION, 49, 48, 27}};
        for (int[] one : failing) {
            Expect.stays(one[0], frameWith(15, 3, one[1], one[2], one[3]), one[0] == FUEL ? 2 : 9, "CFA");
            for (int r = 0; r < 8; r++) {
                for (int rule : new int[] {16, 22}) {
                    FrameUnwinder x = frameWith(12, 7, 2, rule, r, 3, one[1], one[2], one[3]);
                    Expect.stays(one[0], x, one[0] == FUEL ? 2 : 9, "register " + r + " by " + rule);
                }
            }
        }
        for (int r = 0; r < 8; r++) {
            Expect.stays(READ, frameWith(12, 7, 1, 5, r, 0), 9, "a word for register " + r + " at 71");
        }
    }

    private static void cfaNotTold() {
        Expect.stays(NOT_TOLD, frameWith(), 0, "no instructions");
        Expect.stays(NOT_TOLD, frameWith(5, 0, 1, 22, 1, 1, 255), 0, "registers that would fail, too");
        Expect.stays(NOT_TOLD, frameWith(10, 12, 7, 0, 11), 0, "CFA that isn't told in the row that came back");
        FrameUnwinder x = frameWith(0x45, 12, 7, 0);
        x.start(4);
        Expect.stays(NOT_TOLD, x, 0, "CFA that is told further on");
        x.start(5);
        Check.same("unwind() where it is told", x.unwind(0), 0);
    }

    private static void cfaRegisterUnknown() {
        for (int r = 0; r < 8; r++) {
            if (r == 6) {
                continue;
            }
            FrameUnwinder x = frameWith(12, r == 7 ? 1 : 7, 0, 7, r, 0x45, 12, r, 0);
            Check.same("unwind()", x.unwind(0), 0);
            x.start(5);
            Expect.stays(READ, x, 0, "CFA's register " + r);
            x.register(r, 8);
            Check.same("unwind() with register " + r + " known again", x.unwind(0), 0);
        }
    }

    private static void callersPcUnknown() {
        byte[] one = Code.common(1, 4, 6, 12, 7, 0);
        byte[] two = Code.common(1, 4, 5, 12, 7, 0);
        FrameUnwinder x = filled(one, two, Code.frame(one.length, 0, 10, 8, 5, 7, 6), Code.frame(0, 10, 10, 8, 6),
            Code.frame(0, 20, 10, 9, 6, 6));
        x.register(5, 12);
        Check.same("unwind()", x.unwind(0), 0);
        Check.same("get(9) with 6 lost", x.get(9), 191);
        Expect.stays(READ, x, 0, "a return register that is SAME");
        x.start(20);
        Expect.stays(READ, x, 0, "a return register that is REGISTER");
        x.register(6, 77);
        Check.same("unwind() with it known again", x.unwind(0), 0);
        Check.same("get(8)", x.get(8), 77);
    }

    private static void fuelOfEach() {
        int[] nine = {15, 3, 55, 49, 34, 22, 0, 3, 150, 150, 150, 22, 1, 3, 150, 150, 150, 16, 2, 3, 48, 150, 150};
        Check.same("unwind(3) of four expressions of three", frameWith(nine).unwind(3), 0);
        Expect.stays(FUEL, frameWith(nine), 2, "four expressions of three");
        Check.same("unwind(0) without expressions", frameWith(12, 7, 0).unwind(0), 0);
        Check.same("unwind(0) of an expression without bytes", frameWith(12, 7, 2, 22, 0, 0).unwind(0), 0);
        Expect.stays(FUEL, frameWith(12, 7, 2, 22, 0, 1, 150), 0, "an expression of one");
        Expect.stays(FUEL, frameWith(15, 1, 49), 0, "CFA's expression of one");
        Expect.stays(FUEL, frameWith(12, 7, 2, 22, 0, 3, 47, 0xFD, 0xFF), 2000, "a loop");
        // 1 and 4 * 499 and 3 more are 2000.
        int[] most = {12, 7, 2, 22, 0, 12, 10, 0xF3, 1, 49, 28, 18, 40, 0xFA, 0xFF, 150, 150, 150};
        Check.same("unwind(2000) of 2000 operations", frameWith(most).unwind(2000), 0);
        Expect.stays(FUEL, frameWith(most), 1999, "2000 operations");
    }

    private static void toTheCaller() {
        FrameUnwinder x = frameWith(12, 7, 2, 5, 0, 0, 5, 6, 1);
        Check.same("unwind()", x.unwind(0), 0);
        Expect.frame("of the caller", x, 720, 10, 20, 30, 40, 50, 760, 72, 760, 255, 1);
        Expect.stays(BASE, x, 0, "the caller");
    }

    private static void baseChangesNothing() {
        FrameUnwinder x = frameWith(12, 7, 2, 7, 0, 0x45, 7, 6);
        Check.same("unwind()", x.unwind(0), 0);
        x.register(6, 6);
        x.start(0);
        Check.same("unwind()", x.unwind(0), 0);
        Expect.stays(BASE, x, 0, "a caller whose return register is UNDEFINED");
        Expect.stays(BASE, x, 0, "the same again");
        x.start(100);
        Expect.stays(BASE, x, 0, "a frame without an entry");
        x.start(0);
        Check.same("unwind() after them", x.unwind(0), 0);
    }

    private static void refusedChangesNothing() {
        // Registers 0 to 6 are got, each with another value, ahead of register 7, which fails.
        byte[] seven = Code.of(12, 7, 2, 5, 0, 0, 7, 1, 9, 2, 3, 20, 3, 1, 22, 4, 1, 54, 16, 5, 1, 150, 9, 6, 0);
        int[][] failing = {{FUEL, 22, 7, 2, 150, 150}, {BYTES, 22, 7, 1, 255}, {STACK, 22, 7, 1, 19},
            {READ, 16, 7, 1, 49}, {DIVISION, 22, 7, 2, 48, 27}};
        for (int[] one : failing) {
            byte[] last = Code.of(Arrays.copyOfRange(one, 1, one.length));
            FrameUnwinder x = filled(Code.common(1, 4, 6, 8, 6), Code.frame(0, 0, 100, Code.join(seven, last)));
            Expect.stays(one[0], x, one[0] == FUEL ? 1 : 9, "registers of which the last one fails by " + one[0]);
        }
        Expect.stays(NOT_TOLD, frameWith(7, 1), 9, "CFA that isn't told");
        FrameUnwinder last = frameWith(12, 7, 2, 7, 0, 0x45, 9, 6, 0, 5, 1, 0);
        Check.same("unwind()", last.unwind(0), 0);
        last.start(5);
        last.register(7, 70);
        Expect.stays(READ, last, 0, "a return register that isn't known");
        last.register(0, 33);
        Check.same("unwind() with it known", last.unwind(0), 0);
        Check.same("get(8)", last.get(8), 33);
    }

    private static void unsound() {
        FrameUnwinder x = frameWith(12, 7, 0);
        x.spoil(8, 0);
        Check.refused("unwind(0)", IllegalStateException.class, () -> x.unwind(0));
        Check.refused("unwind(-1)", IllegalStateException.class, () -> x.unwind(-1));
        x.start(1000);
        Check.refused("unwind(0) without an entry", IllegalStateException.class, () -> x.unwind(0));
        Expect.frame("after calls that threw", x, 0, 10, 20, 30, 40, 50, 60, 70, 1000, 255, 0);
        x.spoil(8, 1);
        Check.same("unwind(0) when it is sound again", x.unwind(0), BASE);
        x.start(0);
        x.end(32);
        Check.refused("unwind(0) of a cut section", IllegalStateException.class, () -> x.unwind(0));
        x.end(0);
        Check.same("unwind(0) of an empty section", x.unwind(0), BASE);
    }

    private static void noSuchFuel() {
        FrameUnwinder x = frameWith(12, 7, 0);
        for (int fuel : new int[] {-1, 2001, MIN, MAX}) {
            Check.refused("unwind(" + fuel + ")", IllegalArgumentException.class, () -> x.unwind(fuel));
        }
        Expect.frame("after calls that threw", x, 0, 10, 20, 30, 40, 50, 60, 70, 0, 255, 0);
        Check.same("unwind(2000)", x.unwind(2000), 0);
        x.start(0);
        Check.same("unwind(0)", x.unwind(0), 0);
        FrameUnwinder base = new FrameUnwinder();
        Check.refused("unwind(-1) of the base", IllegalArgumentException.class, () -> base.unwind(-1));
        Check.refused("unwind(2001) of the base", IllegalArgumentException.class, () -> base.unwind(2001));
        FrameUnwinder untold = frameWith();
        Check.refused("unwind(2001) without CFA", IllegalArgumentException.class, () -> untold.unwind(2001));
    }
}
