import java.util.Arrays;

/** Promises 12 (reckon) and 13 (value). */
public final class ReckonTest {
    private static final int FUEL = 1;
    private static final int BYTES = 2;
    private static final int STACK = 3;
    private static final int READ = 4;
    private static final int DIVISION = 5;
    private static final int MIN = Integer.MIN_VALUE;
    private static final int MAX = Integer.MAX_VALUE;

    private ReckonTest() {
    }

    public static void main(String[] args) {
        numbers();
        smallNumbersAndRegisters();
        changesOfTheTop();
        twoNumbers();
        shifts();
        comparisons();
        movesOnTheStack();
        jumps();
        badJumps();
        words();
        operationsThereAreNot();
        operationsBeyondTheEnd();
        fuel();
        heights();
        tooFew();
        whatFailsFirst();
        unknownRegisters();
        places();
        lastValue();
        Check.finish();
    }

    private static byte[] number(int n) {
        return new Code().u1(13).number(4, n).bytes();
    }

    private static byte[] two(int operation, int a, int b) {
        return Code.join(number(a), number(b), Code.of(operation));
    }

    private static void numbers() {
        Expect.gives(0x84838281, 3, 0x81, 0x82, 0x83, 0x84);
        Expect.gives(0x84838281, 13, 0x81, 0x82, 0x83, 0x84);
        Expect.gives(255, 8, 255);
        Expect.gives(-1, 9, 255);
        Expect.gives(127, 9, 127);
        Expect.gives(-128, 9, 128);
        Expect.gives(0xFFFE, 10, 0xFE, 0xFF);
        Expect.gives(-2, 11, 0xFE, 0xFF);
        Expect.gives(0x7F80, 11, 0x80, 0x7F);
        Expect.gives(127, 16, 127);
        Expect.gives(128, 16, 0x80, 1);
        Expect.gives(-1, 16, 255, 255, 255, 255, 15);
        Expect.gives(-1, 16, 255, 255, 255, 255, 127);
        Expect.gives(0, 16, 128, 128, 128, 128, 0);
        Expect.gives(63, 17, 63);
        Expect.gives(-64, 17, 64);
        Expect.gives(-1, 17, 127);
        Expect.gives(64, 17, 0xC0, 0);
        Expect.gives(-128, 17, 0x80, 0x7F);
        Expect.gives(-1, 17, 255, 255, 255, 127);
        Expect.gives(0x0FFFFFFF, 17, 255, 255, 255, 255, 0x40);
        Expect.gives(MIN, 17, 128, 128, 128, 128, 8);
        numbersOfSixBytes();
    }

    /** 18 behind five bytes would work as an operation: only the number's length can fail. */
    private static void numbersOfSixBytes() {
        Expect.gives(5, 16, 133, 128, 128, 128, 0, 18);
        Expect.fails(BYTES, 16, 133, 128, 128, 128, 128, 18);
        Expect.fails(BYTES, 17, 133, 128, 128, 128, 128, 18);
        Expect.fails(BYTES, 48, 35, 133, 128, 128, 128, 128, 18);
        for (int r = 0; r < 8; r++) {
            Expect.gives(5, 112 + r, 133, 128, 128, 128, 0, 18);
            Expect.fails(BYTES, 112 + r, 133, 128, 128, 128, 128, 18);
        }
    }

    private static void smallNumbersAndRegisters() {
        for (int n = 0; n < 32; n++) {
            Expect.gives(n, 48 + n);
        }
        FrameUnwinder x = new FrameUnwinder();
        for (int r = 0; r < 8; r++) {
            Code.feed(x, Code.of(112 + r, 0x7D));
            x.register(r, 1000 * r);
            Check.same("reckon() of register " + r, x.reckon(0, 2, 9), 0);
            Check.same("value() of register " + r, x.value(), 1000 * r - 3);
            x.end(0);
        }
        Code.feed(x, Code.of(119, 0xFF, 0));
        x.register(7, MAX);
        x.reckon(0, 3, 9);
        Check.same("value() of a register and more", x.value(), MAX + 127);
    }

    private static void changesOfTheTop() {
        int[][] due = {{5, 5}, {-5, 5}, {0, 0}, {MIN, MIN}, {MAX, MAX}};
        for (int[] pair : due) {
            Expect.gives(pair[1], Code.join(number(pair[0]), Code.of(25)));
            Expect.gives(-pair[0], Code.join(number(pair[0]), Code.of(31)));
            Expect.gives(~pair[0], Code.join(number(pair[0]), Code.of(32)));
            Expect.gives(pair[0] + 300, Code.join(number(pair[0]), Code.of(35, 0xAC, 2)));
            Expect.gives(pair[0], Code.join(number(pair[0]), Code.of(150)));
        }
        Expect.gives(6, 55, 35, 255, 255, 255, 255, 15);
    }

    private static void twoNumbers() {
        int[][] pairs = {{7, 2}, {-7, 2}, {7, -2}, {-7, -2}, {0x0FF0, 0x3C3C}, {MIN, -1}, {MIN, MAX},
            {MAX, MAX}, {0, 5}, {65537, 65537},
            {9, 1}, {-9, 1}, {9, -1}};
        for (int[] pair : pairs) {
            int a = pair[0];
            int b = pair[1];
            Expect.gives(a & b, two(26, a, b));
            Expect.gives(a / b, two(27, a, b));
            Expect.gives(a - b, two(28, a, b));
            Expect.gives(a % b, two(29, a, b));
            Expect.gives(a * b, two(30, a, b));
            Expect.gives(a | b, two(33, a, b));
            Expect.gives(a + b, two(34, a, b));
            Expect.gives(a ^ b, two(39, a, b));
        }
        Expect.gives(-3, two(27, -7, 2));
        Expect.gives(-1, two(29, -7, 2));
        Expect.gives(1, two(29, 7, -2));
        Expect.gives(MIN, two(27, MIN, -1));
        Expect.gives(0, two(29, MIN, -1));
        Expect.fails(DIVISION, two(27, 7, 0));
        Expect.fails(DIVISION, two(29, 7, 0));
        Expect.fails(DIVISION, two(27, 0, 0));
    }

    private static void shifts() {
        int[] numbers = {1, -1, 0x40000001, MIN, 0};
        for (int a : numbers) {
            for (int b : new int[] {0, 1, 30, 31}) {
                Expect.gives(a << b, two(36, a, b));
                Expect.gives(a >>> b, two(37, a, b));
                Expect.gives(a >> b, two(38, a, b));
            }
            for (int b : new int[] {32, 33, 64, -1, -31, -32, MIN, MAX}) {
                Expect.gives(0, two(36, a, b));
                Expect.gives(0, two(37, a, b));
                Expect.gives(a < 0 ? -1 : 0, two(38, a, b));
            }
        }
    }

    private static void comparisons() {
        int[][] pairs = {{1, 1}, {1, 2}, {2, 1}, {-1, 1}, {1, -1}, {MIN, MAX}, {MAX, MIN}, {MIN, MIN}};
        for (int[] pair : pairs) {
            int a = pair[0];
            int b = pair[1];
            Expect.gives(a == b ? 1 : 0, two(41, a, b));
            Expect.gives(a >= b ? 1 : 0, two(42, a, b));
            Expect.gives(a > b ? 1 : 0, two(43, a, b));
            Expect.gives(a <= b ? 1 : 0, two(44, a, b));
            Expect.gives(a < b ? 1 : 0, two(45, a, b));
            Expect.gives(a != b ? 1 : 0, two(46, a, b));
        }
    }

    /** The whole stack, top first, is seen as the digits of a number: each 19 takes one off. */
    private static void leaves(int[] code, int... due) {
        for (int k = 0; k < due.length; k++) {
            byte[] whole = Code.join(Code.of(code), fill(19, k));
            Expect.gives(due[k], whole);
        }
        Expect.fails(STACK, Code.join(Code.of(code), fill(19, due.length)));
    }

    private static byte[] fill(int b, int count) {
        byte[] bytes = new byte[count];
        Arrays.fill(bytes, (byte) b);
        return bytes;
    }

    private static void movesOnTheStack() {
        leaves(new int[] {49, 50, 51}, 3, 2, 1);
        leaves(new int[] {49, 50, 51, 18}, 3, 3, 2, 1);
        leaves(new int[] {49, 50, 51, 19}, 2, 1);
        leaves(new int[] {49, 50, 51, 20}, 2, 3, 2, 1);
        leaves(new int[] {49, 50, 51, 21, 0}, 3, 3, 2, 1);
        leaves(new int[] {49, 50, 51, 21, 1}, 2, 3, 2, 1);
        leaves(new int[] {49, 50, 51, 21, 2}, 1, 3, 2, 1);
        leaves(new int[] {49, 50, 51, 22}, 2, 3, 1);
        leaves(new int[] {52, 49, 50, 51, 23}, 2, 1, 3, 4);
        leaves(new int[] {49, 50, 51, 23}, 2, 1, 3);
        leaves(new int[] {49, 50, 22}, 1, 2);
        leaves(new int[] {49, 50, 20}, 1, 2, 1);
        leaves(new int[] {49, 18}, 1, 1);
        leaves(new int[] {49, 40, 0, 0, 50}, 2);
        leaves(new int[] {47, 0, 0, 50}, 2);
        leaves(new int[] {150, 50}, 2);
        leaves(new int[] {52, 49, 50, 34}, 3, 4);
        leaves(new int[] {52, 49, 50, 43}, 0, 4);
        leaves(new int[] {52, 49, 31}, -1, 4);
        leaves(new int[] {52, 49, 150}, 1, 4);
        leaves(new int[] {52, 49, 40, 0, 0}, 4);
        leaves(new int[] {52, 48, 40, 0, 0}, 4);
        leaves(new int[] {52, 49, 47, 0, 0}, 1, 4);
    }

    private static void jumps() {
        Expect.gives(1, 49, 47, 1, 0, 50);
        Expect.gives(2, 49, 47, 0, 0, 50);
        Expect.gives(1, 49, 49, 40, 1, 0, 50);
        Expect.gives(2, 49, 48, 40, 1, 0, 50);
        Expect.gives(1, 49, 79, 31, 40, 1, 0, 50);
        // From 5 down to 0 by a jump back to the beginning of the loop.
        Expect.gives(0, 53, 49, 28, 18, 40, 0xFA, 0xFF);
        // Into the middle of an operation: the operand 49 is done as the number 1.
        Expect.gives(1, 47, 1, 0, 8, 49);
        // Back to the very beginning: 1 comes on top until the stack is full.
        Expect.fails(STACK, 49, 47, 0xFC, 0xFF);
        // A jump on itself.
        Expect.fails(FUEL, 47, 0xFD, 0xFF);
        Expect.fails(FUEL, 49, 47, 0xFD, 0xFF);
        FrameUnwinder x = Code.load(Code.of(19, 49, 48, 47, 0, 0, 50));
        Check.same("reckon() of a part with a jump to its end", x.reckon(1, 6, 9), 0);
        Check.same("value()", x.value(), 0);
    }

    private static void badJumps() {
        Expect.fails(BYTES, 49, 47, 1, 0);
        Expect.fails(BYTES, 49, 47, 0xFB, 0xFF);
        Expect.fails(BYTES, 49, 47, 0, 0x80);
        Expect.fails(BYTES, 49, 47, 0xFF, 0x7F);
        Expect.fails(BYTES, 49, 49, 40, 1, 0);
        Expect.fails(BYTES, 49, 49, 40, 0xFA, 0xFF);
        Expect.fails(BYTES, 47, 1, 0);
        // A jump that isn't made needs no place to go to.
        Expect.gives(1, 49, 48, 40, 1, 0);
        Expect.gives(1, 49, 48, 40, 0, 0x80);
        FrameUnwinder x = Code.load(Code.of(49, 49, 47, 0xFB, 0xFF, 49, 49, 47, 1, 0, 49));
        Check.same("reckon() of a jump before a part", x.reckon(1, 5, 9), BYTES);
        Check.same("reckon() of a jump beyond a part", x.reckon(6, 10, 9), BYTES);
        Check.same("reckon() of the same jump in a longer part", x.reckon(6, 11, 9), 0);
    }

    private static void words() {
        FrameUnwinder x = Code.load(Code.of(112, 0, 6));
        x.word(1020, 5);
        x.register(0, 1020);
        Check.same("reckon() of the last word", x.reckon(0, 3, 9), 0);
        Check.same("value()", x.value(), 5);
        for (int address : new int[] {-4, 1, 2, 3, 1022, 1024, MIN, MAX}) {
            x.register(0, address);
            Check.same("reckon() of a word at " + address, x.reckon(0, 3, 9), READ);
            Check.same("value()", x.value(), 0);
        }
    }

    private static void operationsThereAreNot() {
        boolean[] are = new boolean[256];
        for (int b : new int[] {3, 6, 8, 9, 10, 11, 13, 16, 17, 18, 19, 20, 21, 22, 23, 150}) {
            are[b] = true;
        }
        Arrays.fill(are, 25, 80, true);
        Arrays.fill(are, 112, 120, true);
        for (int b = 0; b < 256; b++) {
            FrameUnwinder x = Code.load(Code.of(50, 50, 50, b, 0, 0, 0, 0));
            int got = x.reckon(0, 8, 4);
            if (are[b]) {
                Check.same("reckon() of operation " + b + " is BYTES", got == BYTES && b != 47 ? 1 : 0, 0);
            } else {
                Check.same("reckon() of operation " + b, got, BYTES);
            }
        }
    }

    private static void operationsBeyondTheEnd() {
        int[][] whole = {{3, 0, 0, 0, 0}, {8, 0}, {9, 0}, {10, 0, 0}, {11, 0, 0}, {13, 0, 0, 0, 0}, {16, 0},
            {16, 128, 0}, {17, 0}, {17, 128, 0}, {21, 0}, {35, 0}, {35, 128, 0}, {40, 0, 0}, {47, 0, 0},
            {112, 0}, {119, 128, 0}};
        for (int[] operation : whole) {
            FrameUnwinder x = Code.load(Code.of(50, 50), Code.of(operation));
            Check.same("reckon() of operation " + operation[0], x.reckon(0, 2 + operation.length, 9), 0);
            for (int size = 1; size < operation.length; size++) {
                Check.same("reckon() of " + size + " bytes of operation " + operation[0],
                    x.reckon(0, 2 + size, 9), BYTES);
            }
        }
    }

    private static void fuel() {
        FrameUnwinder x = Code.load(Code.of(49, 50, 34), fill(150, 500));
        Check.same("reckon(0, 3, 3)", x.reckon(0, 3, 3), 0);
        Check.same("value()", x.value(), 3);
        Check.same("reckon(0, 3, 2)", x.reckon(0, 3, 2), FUEL);
        Check.same("reckon(0, 3, 0)", x.reckon(0, 3, 0), FUEL);
        Check.same("reckon(0, 0, 0)", x.reckon(0, 0, 0), STACK);
        Check.same("reckon(0, 503, 503)", x.reckon(0, 503, 503), 0);
        Check.same("reckon(0, 503, 502)", x.reckon(0, 503, 502), FUEL);
        // 1 for the number, then 4 for each round.
        byte[] rounds = Code.join(number(499), Code.of(49, 28, 18, 40, 0xFA, 0xFF));
        FrameUnwinder y = Code.load(rounds);
        Check.same("reckon() of 499 rounds with 1997", y.reckon(0, rounds.length, 1997), 0);
        Check.same("reckon() of 499 rounds with 1996", y.reckon(0, rounds.length, 1996), FUEL);
        for (int none : new int[] {-1, 2001, MIN, MAX}) {
            Check.refused("reckon(0, 3, " + none + ")", IllegalArgumentException.class,
                () -> x.reckon(0, 3, none));
        }
        Check.same("reckon(0, 3, 2000)", x.reckon(0, 3, 2000), 0);
    }

    private static void heights() {
        byte[] sixteen = fill(49, 16);
        Expect.gives(1, sixteen);
        int[][] pushing = {{3, 0, 0, 0, 0}, {8, 0}, {9, 0}, {10, 0, 0}, {11, 0, 0}, {13, 0, 0, 0, 0},
            {16, 0}, {17, 0}, {18}, {20}, {21, 0}, {21, 15}, {48}, {79}, {112, 0}, {119, 0}};
        for (int[] operation : pushing) {
            Expect.fails(STACK, Code.join(sixteen, Code.of(operation)));
            FrameUnwinder x = Code.load(Code.join(sixteen, Code.of(19), Code.of(operation)));
            int size = 17 + operation.length;
            Check.same("reckon() of operation " + operation[0] + " on fifteen numbers",
                x.reckon(0, size, 99), operation.length == 2 && operation[1] == 15 ? STACK : 0);
        }
        Expect.gives(2, Code.join(sixteen, Code.of(34)));
        Expect.gives(1, Code.join(sixteen, Code.of(23, 22, 150)));
        Expect.gives(5, Code.join(Code.of(53), fill(49, 14), Code.of(21, 14)));
        Expect.fails(STACK, Code.join(Code.of(53), fill(49, 14), Code.of(21, 15)));
        Expect.fails(STACK, Code.join(Code.of(53), fill(49, 14), Code.of(21, 255)));
    }

    private static void tooFew() {
        Expect.fails(STACK);
        Expect.fails(STACK, 150);
        Expect.fails(STACK, 49, 19);
        for (int one : new int[] {6, 18, 19, 25, 31, 32}) {
            Expect.fails(STACK, one);
        }
        Expect.fails(STACK, 35, 1);
        Expect.fails(STACK, 40, 0, 0);
        Expect.fails(STACK, 21, 0);
        Expect.fails(STACK, 49, 21, 1);
        int[] pairs = {20, 22, 26, 27, 28, 29, 30, 33, 34, 36, 37, 38, 39, 41, 42, 43, 44, 45, 46};
        for (int pair : pairs) {
            Expect.fails(STACK, pair);
            Expect.fails(STACK, 49, pair);
        }
        Expect.fails(STACK, 23);
        Expect.fails(STACK, 49, 23);
        Expect.fails(STACK, 49, 50, 23);
    }

    private static void whatFailsFirst() {
        // Beyond the end, on an empty stack and on a full one.
        Expect.fails(BYTES, 35);
        Expect.fails(BYTES, 40, 0);
        Expect.fails(BYTES, 21);
        Expect.fails(BYTES, Code.join(fill(49, 16), Code.of(8)));
        Expect.fails(BYTES, Code.join(fill(49, 16), Code.of(47, 1, 0)));
        // Division by 0 with one number alone.
        Expect.fails(STACK, 48, 27);
        Expect.fails(STACK, 48, 29);
        // CFA where there is none, on a full stack.
        Expect.fails(BYTES, Code.join(fill(49, 16), Code.of(156)));
        Expect.fails(BYTES, 156);
        // Without fuel no operation is looked at.
        FrameUnwinder x = Code.load(Code.of(255));
        Check.same("reckon() of no operation without fuel", x.reckon(0, 1, 0), FUEL);
        Check.same("reckon() of no operation with fuel", x.reckon(0, 1, 1), BYTES);
        // What is behind the failing operation doesn't count.
        Expect.fails(STACK, 34, 255);
        Expect.fails(READ, 49, 6, 255);
        Expect.fails(DIVISION, 49, 48, 27, 255);
    }

    private static void unknownRegisters() {
        // CFA is register 7, and the return register stays; register 1 is lost.
        FrameUnwinder x = Code.load(Code.common(1, 1, 6, 12, 7, 0, 8, 6, 7, 1), Code.frame(0, 0, 9));
        Check.same("unwind()", x.unwind(0), 0);
        x.end(0);
        Code.feed(x, Code.join(fill(49, 16), Code.of(113, 0, 114, 0, 113)));
        Check.same("reckon() of an unknown register", x.reckon(16, 18, 9), READ);
        Check.same("reckon() of a known register", x.reckon(18, 20, 9), 0);
        Check.same("reckon() of an unknown register on a full stack", x.reckon(0, 18, 99), STACK);
        Check.same("reckon() of half an unknown register", x.reckon(20, 21, 9), BYTES);
        x.register(1, 44);
        Check.same("reckon() of a register known again", x.reckon(16, 18, 9), 0);
        Check.same("value()", x.value(), 44);
    }

    private static void places() {
        FrameUnwinder x = Code.load(Code.of(49, 50, 51));
        Check.same("reckon(0, 1, 9)", x.reckon(0, 1, 9), 0);
        Check.same("value()", x.value(), 1);
        Check.same("reckon(1, 2, 9)", x.reckon(1, 2, 9), 0);
        Check.same("value()", x.value(), 2);
        Check.same("reckon(2, 3, 9)", x.reckon(2, 3, 9), 0);
        Check.same("value()", x.value(), 3);
        Check.same("reckon(3, 3, 9)", x.reckon(3, 3, 9), STACK);
        Check.same("reckon(1, 1, 9)", x.reckon(1, 1, 9), STACK);
        int[][] none = {{0, 4}, {4, 4}, {-1, 2}, {-1, -1}, {2, 1}, {3, 2}, {0, -1}, {MIN, MAX}, {MAX, MIN},
            {MIN, 1}, {0, MAX}};
        for (int[] pair : none) {
            Check.refused("reckon(" + pair[0] + ", " + pair[1] + ", 9)", IllegalArgumentException.class,
                () -> x.reckon(pair[0], pair[1], 9));
        }
        x.end(2);
        Check.refused("reckon(0, 3, 9) of 2", IllegalArgumentException.class, () -> x.reckon(0, 3, 9));
        FrameUnwinder empty = new FrameUnwinder();
        Check.same("reckon(0, 0, 9) of nothing", empty.reckon(0, 0, 9), STACK);
    }

    private static void lastValue() {
        FrameUnwinder x = Code.load(Code.of(57, 34));
        Check.same("value() at first", x.value(), 0);
        x.reckon(0, 1, 9);
        Check.same("value()", x.value(), 9);
        Check.same("value() again", x.value(), 9);
        Check.refused("reckon(0, 3, 9)", IllegalArgumentException.class, () -> x.reckon(0, 3, 9));
        Check.refused("reckon(0, 1, -1)", IllegalArgumentException.class, () -> x.reckon(0, 1, -1));
        Check.same("value() after a throw", x.value(), 9);
        x.spoil(0, 58);
        x.register(0, 5);
        x.start(3);
        Check.same("value() after other calls", x.value(), 9);
        Check.same("reckon(0, 2, 9)", x.reckon(0, 2, 9), STACK);
        Check.same("value() after a failure", x.value(), 0);
        unwindLeavesTheValue();
    }

    private static void unwindLeavesTheValue() {
        byte[] section = Code.join(Code.common(1, 1, 6, 15, 1, 60, 8, 6), Code.frame(0, 0, 9));
        FrameUnwinder x = Code.load(section);
        Check.same("reckon() of the number 1", x.reckon(8, 8, 9), STACK);
        Check.same("reckon() of an expression's bytes", x.reckon(14, 15, 9), 0);
        Check.same("value()", x.value(), 12);
        x.spoil(14, 61);
        Check.same("unwind()", x.unwind(9), 0);
        Check.same("get(7)", x.get(7), 13);
        Check.same("value() after unwind()", x.value(), 12);
    }
}
