import java.util.Arrays;

/** Promise 14 (unwind). */
public final class UnwindTest {
    private static final int FUEL = 1;
    private static final int BYTES = 2;
    private static final int STACK = 3;
    private static final int READ = 4;
    private static final int DIVISION = 5;
    private static final int NOT_TOLD = 6;
    private static final int BASE = 10;

    private UnwindTest() {
    }

    public static void main(String[] args) {
        refusals();
        bases();
        cfa();
        cfaExpressions();
        everyRule();
        rulesUseTheFrameBefore();
        unreadableWords();
        unknownRegisters();
        unknownReturn();
        expressions();
        expressionsThatFail();
        fuelOfEachExpression();
        whatFailsFirst();
        returnRegisters();
        callersPlaces();
        chain();
        firstEntryCounts();
        cfaIsForgotten();
        Check.finish();
    }

    /**
     * An object at pc 0 with registers 0, 10, 20 .. 70, words that hold ten times their address, and
     * one frame entry for the places 0 .. 99 whose common entry has the factors 1 and 4 and the return
     * register 6, which stays the same.
     */
    private static FrameUnwinder frameWith(int... instructions) {
        FrameUnwinder x = Code.load(Code.common(1, 4, 6, 8, 6), Code.frame(0, 0, 100, instructions));
        fill(x);
        return x;
    }

    private static void fill(FrameUnwinder x) {
        for (int r = 0; r < 8; r++) {
            x.register(r, 10 * r);
        }
        for (int address = 0; address < 128; address += 4) {
            x.word(address, 10 * address);
        }
    }

    private static void refusals() {
        FrameUnwinder x = frameWith(12, 7, 0);
        for (int fuel : new int[] {-1, 2001, Integer.MIN_VALUE, Integer.MAX_VALUE}) {
            Check.refused("unwind(" + fuel + ")", IllegalArgumentException.class, () -> x.unwind(fuel));
        }
        x.spoil(8, 2);
        Check.refused("unwind() unsound", IllegalStateException.class, () -> x.unwind(9));
        Check.refused("unwind(-1) unsound", IllegalStateException.class, () -> x.unwind(-1));
        x.spoil(8, 1);
        Expect.frame("after refusals", x, 0, 10, 20, 30, 40, 50, 60, 70, 0, 255, 0);
        Check.same("unwind(2000)", x.unwind(2000), 0);
        x.start(1000);
        Check.refused("unwind(-1) of the base", IllegalArgumentException.class, () -> x.unwind(-1));
    }

    private static void bases() {
        FrameUnwinder x = frameWith(12, 7, 0, 0x45, 7, 6, 0x45, 5, 6, 1, 0x45, 7, 6, 15, 0);
        x.start(100);
        Expect.stays(BASE, x, 9, "a place without an entry");
        x.start(-1);
        Expect.stays(BASE, x, 9, "the highest place");
        x.start(5);
        Expect.stays(BASE, x, 9, "an UNDEFINED return register");
        x.start(15);
        Expect.stays(BASE, x, 9, "an UNDEFINED return register and a bad CFA");
        x.start(4);
        Check.same("unwind() ahead of it", x.unwind(9), 0);
        FrameUnwinder plain = Code.load(Code.common(1, 4, 6, 12, 7, 0), Code.frame(0, 0, 100));
        Expect.stays(BASE, plain, 9, "the return register's rule at first");
        FrameUnwinder seven = Code.load(Code.common(1, 4, 7, 12, 7, 0), Code.frame(0, 0, 100));
        Expect.stays(BASE, seven, 9, "return register 7's rule at first");
        FrameUnwinder untold = Code.load(Code.common(1, 4, 6), Code.frame(0, 0, 100));
        Expect.stays(BASE, untold, 9, "neither a return register nor CFA");
    }

    private static void cfa() {
        Expect.stays(NOT_TOLD, frameWith(), 9, "CFA that isn't told");
        FrameUnwinder x = frameWith(12, 3, 5);
        Check.same("unwind()", x.unwind(0), 0);
        Expect.frame("of a register and a number", x, 0, 10, 20, 30, 40, 50, 60, 35, 60, 255, 1);
        FrameUnwinder below = frameWith(18, 3, 0x7F);
        Check.same("unwind()", below.unwind(0), 0);
        Expect.frame("of a register and a number below 0", below, 0, 10, 20, 30, 40, 50, 60, 26, 60, 255, 1);
        FrameUnwinder wraps = frameWith(12, 3, 1);
        wraps.register(3, Integer.MAX_VALUE);
        Check.same("unwind()", wraps.unwind(0), 0);
        Check.same("get(7)", wraps.get(7), Integer.MIN_VALUE);
    }

    private static void cfaExpressions() {
        FrameUnwinder x = frameWith(15, 4, 114, 4, 35, 8);
        Check.same("unwind(2)", x.unwind(2), 0);
        Expect.frame("of an expression", x, 0, 10, 20, 30, 40, 50, 60, 32, 60, 255, 1);
        Expect.stays(FUEL, frameWith(15, 4, 114, 4, 35, 8), 1, "CFA with too little fuel");
        Expect.stays(BYTES, frameWith(15, 1, 255), 9, "CFA with no such operation");
        Expect.stays(BYTES, frameWith(15, 1, 8, 0, 0), 9, "CFA with half an operation");
        Expect.stays(BYTES, frameWith(15, 1, 156), 9, "CFA of CFA");
        Expect.stays(STACK, frameWith(15, 0), 0, "CFA of no bytes");
        Expect.stays(STACK, frameWith(15, 1, 18), 9, "CFA that has nothing on the stack");
        Expect.stays(READ, frameWith(15, 2, 49, 6), 9, "CFA of a bad address");
        Expect.stays(DIVISION, frameWith(15, 3, 49, 48, 27), 9, "CFA divided by 0");
        Expect.stays(BYTES, frameWith(15, 4, 49, 47, 1, 0, 0, 0), 9, "CFA with a jump beyond its end");
        Expect.stays(BYTES, frameWith(jumpBefore(15)), 9, "CFA with a jump before its beginning");
    }

    /** An expression of 18 bytes; its jump goes to this 18 ahead of it, which would work as an operation. */
    private static int[] jumpBefore(int... ahead) {
        int[] instructions = Arrays.copyOf(ahead, ahead.length + 19);
        Arrays.fill(instructions, ahead.length, instructions.length, 150);
        int[] begins = {18, 49, 47, 0xFB, 0xFF};
        System.arraycopy(begins, 0, instructions, ahead.length, begins.length);
        return instructions;
    }

    private static void everyRule() {
        FrameUnwinder x = frameWith(12, 7, 2, 7, 0, 5, 1, 2, 17, 2, 0x7F, 9, 3, 1, 22, 4, 3, 35, 3, 150,
            16, 5, 2, 35, 12, 20, 7, 1);
        Check.same("unwind()", x.unwind(9), 0);
        Expect.frame("of every rule", x, 0, 800, 680, 10, 75, 840, 60, 76, 60, 254, 1);
    }

    private static void rulesUseTheFrameBefore() {
        FrameUnwinder x = frameWith(12, 7, 2, 9, 0, 1, 9, 1, 0, 9, 2, 7, 22, 3, 2, 112, 0, 22, 4, 2, 119, 0,
            22, 5, 2, 115, 1);
        Check.same("unwind()", x.unwind(9), 0);
        Expect.frame("of rules by other registers", x, 10, 0, 70, 0, 70, 31, 60, 72, 60, 255, 1);
        FrameUnwinder self = frameWith(12, 7, 2, 9, 1, 1);
        Check.same("unwind()", self.unwind(9), 0);
        Check.same("get(1)", self.get(1), 10);
    }

    private static void unreadableWords() {
        Expect.stays(READ, frameWith(12, 7, 1, 5, 0, 0), 9, "a word at 71");
        Expect.stays(READ, frameWith(12, 7, 2, 17, 0, 0x6D), 9, "a word at -4");
        FrameUnwinder last = frameWith(12, 0, 0, 5, 0, 0xFF, 1);
        last.word(1020, -8);
        Check.same("unwind() with the last word", last.unwind(9), 0);
        Check.same("get(0)", last.get(0), -8);
        Expect.stays(READ, frameWith(12, 0, 0, 5, 0, 0x80, 2), 9, "a word at 1024");
        FrameUnwinder first = frameWith(12, 7, 2, 17, 0, 0x6E);
        first.word(0, -9);
        Check.same("unwind() with the first word", first.unwind(9), 0);
        Check.same("get(0)", first.get(0), -9);
        Expect.stays(READ, frameWith(12, 7, 0, 16, 0, 0), 9, "an EXPRESSION of 70");
        Expect.stays(READ, frameWith(12, 7, 2, 16, 0, 3, 10, 0, 4), 9, "an EXPRESSION of 1024");
    }

    private static void unknownRegisters() {
        FrameUnwinder x = frameWith(12, 7, 0, 7, 0, 7, 3, 0x45, 9, 1, 3, 0x45, 12, 3, 0, 0x45, 15, 2, 115, 0,
            0x45, 12, 7, 0, 22, 2, 2, 112, 0, 0x45, 6, 2, 9, 6, 0);
        Check.same("unwind()", x.unwind(9), 0);
        Expect.frame("with registers lost", x, 0, 10, 20, 0, 40, 50, 60, 70, 60, 246, 1);
        x.start(5);
        Check.same("unwind() with REGISTER unknown", x.unwind(9), 0);
        Expect.frame("with REGISTER unknown", x, 0, 0, 20, 0, 40, 50, 60, 70, 60, 244, 1);
        x.start(10);
        Expect.stays(READ, x, 9, "CFA's unknown register");
        x.start(15);
        Expect.stays(READ, x, 9, "CFA's expression with an unknown register");
        x.start(20);
        Expect.stays(READ, x, 9, "a rule's expression with an unknown register");
        x.start(25);
        Expect.stays(READ, x, 9, "an unknown return register by REGISTER");
        x.start(0);
        x.register(0, 5);
        x.register(3, 6);
        Check.same("get(9)", x.get(9), 253);
        x.start(10);
        Check.same("unwind() with CFA's register known again", x.unwind(9), 0);
        Check.same("get(7)", x.get(7), 6);
    }

    private static void unknownReturn() {
        byte[] one = Code.common(1, 4, 6, 12, 7, 0);
        byte[] two = Code.common(1, 4, 5, 12, 7, 0);
        FrameUnwinder x = Code.load(one, two,
            Code.frame(one.length, 0, 10, 8, 5, 7, 6), Code.frame(0, 10, 10, 8, 6));
        fill(x);
        x.register(5, 12);
        Check.same("unwind()", x.unwind(9), 0);
        Check.same("get(8)", x.get(8), 12);
        Check.same("get(9)", x.get(9), 191);
        Expect.stays(READ, x, 9, "an unknown return register by SAME");
        x.register(6, 99);
        Check.same("unwind() with it known again", x.unwind(9), 0);
        Check.same("get(8)", x.get(8), 99);
        Check.same("get(10)", x.get(10), 2);
    }

    private static void expressions() {
        FrameUnwinder x = frameWith(12, 7, 2, 22, 0, 0, 16, 1, 0, 22, 2, 2, 156, 34, 16, 3, 2, 156, 18,
            22, 4, 2, 22, 56, 22, 5, 4, 19, 156, 156, 28);
        Expect.stays(STACK, x, 9, "an expression that needs two numbers");
        FrameUnwinder y = frameWith(12, 7, 2, 22, 0, 0, 16, 1, 0, 22, 2, 2, 156, 34, 16, 3, 2, 156, 18,
            22, 4, 1, 56, 22, 5, 4, 19, 156, 156, 28);
        Check.same("unwind()", y.unwind(4), 0);
        Expect.frame("of expressions", y, 72, 720, 144, 720, 8, 0, 60, 72, 60, 255, 1);
        int[] fifteen = {12, 7, 2, 22, 0, 15, 49, 49, 49, 49, 49, 49, 49, 49, 49, 49, 49, 49, 49, 49, 49};
        Check.same("unwind() with sixteen numbers", frameWith(fifteen).unwind(99), 0);
        int[] sixteen = {12, 7, 2, 22, 0, 16, 49, 49, 49, 49, 49, 49, 49, 49, 49, 49, 49, 49, 49, 49, 49, 49};
        Expect.stays(STACK, frameWith(sixteen), 99, "CFA and sixteen numbers");
    }

    private static void expressionsThatFail() {
        for (int rule : new int[] {16, 22}) {
            Expect.stays(FUEL, frameWith(12, 7, 2, rule, 0, 1, 150), 0, "no fuel by " + rule);
            Expect.stays(BYTES, frameWith(12, 7, 2, rule, 0, 1, 255), 9, "no such operation by " + rule);
            Expect.stays(BYTES, frameWith(jumpBefore(12, 7, 2, rule, 0)), 9, "a jump before it by " + rule);
            Expect.stays(BYTES, frameWith(12, 7, 2, rule, 0, 3, 47, 1, 0, 0), 9, "a jump beyond it by " + rule);
            Expect.stays(STACK, frameWith(12, 7, 2, rule, 0, 1, 19), 9, "an empty stack by " + rule);
            Expect.stays(READ, frameWith(12, 7, 2, rule, 0, 2, 49, 6), 9, "a bad address by " + rule);
            Expect.stays(DIVISION, frameWith(12, 7, 2, rule, 0, 2, 48, 29), 9, "a division by " + rule);
        }
    }

    private static void fuelOfEachExpression() {
        int[] three = {15, 3, 55, 49, 34, 22, 0, 3, 150, 150, 150, 22, 1, 3, 150, 150, 150};
        Check.same("unwind(3) of three expressions", frameWith(three).unwind(3), 0);
        Expect.stays(FUEL, frameWith(three), 2, "three expressions");
        int[] loop = {12, 7, 2, 22, 0, 3, 47, 0xFD, 0xFF};
        Expect.stays(FUEL, frameWith(loop), 2000, "a loop");
    }

    private static void whatFailsFirst() {
        Expect.stays(READ, frameWith(12, 7, 1, 5, 0, 0, 22, 1, 1, 255), 9, "register 0 ahead of 1");
        Expect.stays(BYTES, frameWith(12, 7, 1, 5, 1, 0, 22, 0, 1, 255), 9, "register 0 ahead of 1 again");
        Expect.stays(NOT_TOLD, frameWith(22, 0, 1, 255), 9, "CFA ahead of registers");
        Expect.stays(DIVISION, frameWith(15, 3, 48, 48, 27, 22, 0, 1, 255), 9, "CFA's failure ahead of registers'");
        FrameUnwinder x = frameWith(12, 7, 2, 7, 0, 0x45, 9, 6, 0, 22, 7, 1, 255);
        Check.same("unwind()", x.unwind(9), 0);
        x.start(5);
        Expect.stays(BYTES, x, 9, "register 7 ahead of the return register that isn't known");
    }

    private static void returnRegisters() {
        for (int back = 0; back < 8; back++) {
            FrameUnwinder x = Code.load(Code.common(1, 4, back, 12, 1, 2, 5, back, 1), Code.frame(0, 0, 9));
            fill(x);
            Check.same("unwind() by register " + back, x.unwind(9), 0);
            Check.same("get(8) by register " + back, x.get(8), 160);
            Check.same("get(" + back + ")", x.get(back), 160);
        }
    }

    private static void callersPlaces() {
        // The return address stays in register 6; CFA is 7 and 1, 2 or 3 more.
        FrameUnwinder x = Code.load(Code.common(1, 4, 6, 8, 6), Code.frame(0, 10, 10, 12, 7, 1, 0x45, 14, 2),
            Code.frame(0, 20, 10, 12, 7, 3));
        int[][] due = {{20, 2}, {21, 3}, {30, 3}, {15, 1}, {16, 2}, {11, 1}};
        for (int[] pair : due) {
            x.register(6, pair[0]);
            x.start(10);
            Check.same("unwind() to " + pair[0], x.unwind(9), 0);
            x.register(7, 100);
            Check.same("unwind() from " + pair[0], x.unwind(9), 0);
            Check.same("get(7) of a caller at " + pair[0], x.get(7), 100 + pair[1]);
        }
        for (int pc : new int[] {31, 10, 0, Integer.MIN_VALUE}) {
            x.register(6, pc);
            x.start(10);
            Check.same("unwind() to " + pc, x.unwind(9), 0);
            Expect.stays(BASE, x, 9, "a caller at " + pc);
        }
        for (int[] pair : new int[][] {{10, 1}, {14, 1}, {15, 2}, {19, 2}, {20, 3}, {29, 3}}) {
            x.register(7, 100);
            x.start(pair[0]);
            Check.same("unwind() from " + pair[0], x.unwind(9), 0);
            Check.same("get(7) of a first frame at " + pair[0], x.get(7), 100 + pair[1]);
        }
        x.start(9);
        Expect.stays(BASE, x, 9, "a first frame at 9");
        x.start(30);
        Expect.stays(BASE, x, 9, "a first frame at 30");
    }

    private static void chain() {
        // Each frame has two words: its caller's register 5, and its return address.
        FrameUnwinder x = Code.load(Code.common(1, -4, 6, 12, 7, 8, 0x85, 2, 0x86, 1), Code.frame(0, 100, 50));
        for (int k = 0; k < 20; k++) {
            x.word(8 * k, 1000 + k);
            x.word(8 * k + 4, k == 19 ? 7 : 101 + k);
        }
        x.start(120);
        for (int k = 0; k < 20; k++) {
            Check.same("unwind() of frame " + k, x.unwind(0), 0);
            Check.same("get(5)", x.get(5), 1000 + k);
            Check.same("get(7)", x.get(7), 8 * k + 8);
            Check.same("get(8)", x.get(8), k == 19 ? 7 : 101 + k);
            Check.same("get(10)", x.get(10), k + 1);
        }
        Expect.stays(BASE, x, 0, "the last frame");
    }

    private static void firstEntryCounts() {
        FrameUnwinder x = Code.load(Code.common(1, 4, 6, 8, 6), Code.frame(0, 10, 10, 12, 7, 1),
            Code.frame(0, 0, 100, 12, 7, 2));
        x.start(15);
        Check.same("unwind() in both entries", x.unwind(9), 0);
        Check.same("get(7)", x.get(7), 1);
        x.start(25);
        Check.same("unwind() in the second entry", x.unwind(9), 0);
        Check.same("get(7)", x.get(7), 3);
    }

    /** CFA of one step is none of the next step's, nor of reckon()'s. */
    private static void cfaIsForgotten() {
        FrameUnwinder x = frameWith(12, 7, 2, 22, 7, 1, 156, 0x45, 15, 1, 156);
        Check.same("unwind()", x.unwind(9), 0);
        Check.same("get(7)", x.get(7), 72);
        // The expression of register 7 stands behind 14 bytes of the common entry and 16 of the frame.
        Check.same("row(0, 7, 1)", x.row(0, 7, 1), 36);
        Check.same("reckon() of CFA", x.reckon(36, 37, 9), BYTES);
        x.start(0);
        Check.same("unwind()", x.unwind(9), 0);
        x.start(5);
        Expect.stays(BYTES, x, 9, "CFA of the CFA of the step before");
    }
}
