import java.util.Arrays;

/** Each edge that the document names of expressions and how they fail: promises 12 and 13. */
public final class ReckonEdgesTest {
    private static final int MIN = Integer.MIN_VALUE;
    private static final int MAX = Integer.MAX_VALUE;
    private static final int FUEL = 1;
    private static final int BYTES = 2;
    private static final int STACK = 3;
    private static final int READ = 4;
    private static final int DIVISION = 5;

    private static final byte[] FIFTEEN = fill(49, 15);
    private static final byte[] SIXTEEN = fill(49, 16);

    private ReckonEdgesTest() {
    }

    public static void main(String[] args) {
        stackAndFuel();
        oneNumber();
        twoNumbers();
        otherOperations();
        failures();
        calls();
        Check.finish();
    }

    private static void stackAndFuel() {
        Check.sentence("a STACK of at most 16 numbers", ReckonEdgesTest::sixteenNumbers);
        Check.sentence("each one done costs 1 of the FUEL.", ReckonEdgesTest::costs);
        Check.sentence("3 U4, 8 U1, 9 S1, 10 U2, 11 S2, 13 U4, 16 ULEB, 17 SLEB: the number comes on top.",
            ReckonEdgesTest::onTop);
        Check.sentence("18 the top again; 19 the top goes; 20 the second again", ReckonEdgesTest::againAndGone);
        Check.sentence("21 U1 n: the n-th below the top again (0 the top)", ReckonEdgesTest::nthAgain);
        Check.sentence("22 top and second change; 23 the top goes below the third.", ReckonEdgesTest::changes);
    }

    private static void oneNumber() {
        Check.sentence("6: the top becomes the word at that address.", ReckonEdgesTest::word);
        Check.sentence("25 size (of -2^31 itself)", ReckonEdgesTest::size);
        Check.sentence("31 minus, 32 all bits turned, of the top.", ReckonEdgesTest::minusAndTurned);
        Check.sentence("35 ULEB: the top so much more.", ReckonEdgesTest::soMuchMore);
    }

    private static void twoNumbers() {
        Check.sentence("With b the top and a the second, both replaced", ReckonEdgesTest::bothReplaced);
        Check.sentence("26 a and b, 33 a or b, 39 a xor b", ReckonEdgesTest::bits);
        Check.sentence("27 a / b (towards 0)", ReckonEdgesTest::divided);
        Check.sentence("29 a mod b (as % is)", ReckonEdgesTest::remainder);
        Check.sentence("28 a - b, 30 a * b, 34 a + b: 32 bits, wrapping", ReckonEdgesTest::wrapping);
        Check.sentence("36 a up by b, 37 down by b without sign, 38 with sign", ReckonEdgesTest::shifts);
        Check.sentence("(0 or -1 if b is not 0 .. 31)", ReckonEdgesTest::farShifts);
        Check.sentence("41 .. 46: 1 if a is b, not below b, above b, not above b, below b, not b, else 0.",
            ReckonEdgesTest::comparisons);
    }

    private static void otherOperations() {
        Check.sentence("40 S2: the top goes; if it isn't 0, on at so many bytes from behind this.",
            ReckonEdgesTest::jumpsUnlessZero);
        Check.sentence("47 S2: on at so many bytes from behind this.", ReckonEdgesTest::jumps);
        Check.sentence("48 .. 79: 0 .. 31.", ReckonEdgesTest::smallNumbers);
        Check.sentence("112 .. 119 SLEB: register 0 .. 7 and so many more.", ReckonEdgesTest::registers);
        Check.sentence("150 nothing.", ReckonEdgesTest::nothing);
        Check.sentence("It ends at its end; its value is the top.", ReckonEdgesTest::endAndValue);
    }

    private static void failures() {
        Check.sentence("1 FUEL: there is none left.", ReckonEdgesTest::noFuel);
        Check.sentence("2 BYTES: an operation that there isn't", ReckonEdgesTest::noOperation);
        Check.sentence("one that goes beyond the end", ReckonEdgesTest::beyondTheEnd);
        Check.sentence("a jump before the beginning", ReckonEdgesTest::jumpBeforeTheBeginning);
        Check.sentence("or beyond the end", ReckonEdgesTest::jumpBeyondTheEnd);
        Check.sentence("CFA where there is none.", ReckonEdgesTest::noCfa);
        Check.sentence("3 STACK: too many", ReckonEdgesTest::tooMany);
        Check.sentence("or too few numbers", ReckonEdgesTest::tooFew);
        Check.sentence("none at the end.", ReckonEdgesTest::noneAtTheEnd);
        Check.sentence("4 READ: an address that can't be read", ReckonEdgesTest::noAddress);
        Check.sentence("a register that isn't known.", ReckonEdgesTest::unknownRegister);
        Check.sentence("5 DIVISION by 0.", ReckonEdgesTest::divisionByZero);
        Check.sentence("(Of one operation BYTES goes first, then STACK.)", ReckonEdgesTest::whatGoesFirst);
    }

    private static void calls() {
        Check.sentence("Reckons the bytes of the section from one place up to another one as an expression",
            ReckonEdgesTest::fromOnePlaceToAnother);
        Check.sentence("as an expression, without CFA", ReckonEdgesTest::withoutCfa);
        Check.sentence("0 if it doesn't fail, else its number.", ReckonEdgesTest::answers);
        Check.sentence("IllegalArgumentException if there are no such places (to is below from, too)",
            ReckonEdgesTest::noSuchPlaces);
        Check.sentence("or fuel is not 0 .. 2000.", ReckonEdgesTest::noSuchFuel);
        Check.sentence("The value that reckon() had last", ReckonEdgesTest::lastValue);
        Check.sentence("(0 if it failed, or there was none).", ReckonEdgesTest::noValue);
    }

    private static byte[] fill(int b, int count) {
        byte[] bytes = new byte[count];
        Arrays.fill(bytes, (byte) b);
        return bytes;
    }

    private static byte[] number(int n) {
        return new Code().u1(13).number(4, n).bytes();
    }

    private static void one(int due, int operation, int a) {
        Expect.gives(due, Code.join(number(a), Code.of(operation)));
    }

    private static void two(int due, int operation, int a, int b) {
        Expect.gives(due, Code.join(number(a), number(b), Code.of(operation)));
    }

    /** The stack that the code leaves, from the top on: it has no more numbers than these. */
    private static void leaves(int[] code, int... due) {
        for (int k = 0; k < due.length; k++) {
            Expect.gives(due[k], Code.join(Code.of(code), fill(19, k)));
        }
        Expect.fails(STACK, Code.join(Code.of(code), fill(19, due.length)));
    }

    private static int answer(byte[] code, int fuel) {
        return Code.load(code).reckon(0, code.length, fuel);
    }

    private static void sixteenNumbers() {
        Expect.gives(2, Code.join(FIFTEEN, Code.of(50)));
        Expect.fails(STACK, Code.join(SIXTEEN, Code.of(50)));
        Expect.gives(2, Code.join(SIXTEEN, Code.of(19, 50)));
        Expect.gives(16, Code.join(SIXTEEN, fill(34, 15)));
        Expect.fails(STACK, Code.join(SIXTEEN, fill(34, 16)));
    }

    private static void costs() {
        int[][] ones = {{3, 0, 0, 0, 0}, {6}, {8, 0}, {9, 0}, {10, 0, 0}, {11, 0, 0}, {13, 0, 0, 0, 0}, {16, 0},
            {17, 0}, {18}, {19}, {20}, {21, 0}, {22}, {23}, {25}, {31}, {32}, {35, 0}, {40, 0, 0}, {47, 0, 0}, {48},
            {79}, {112, 0}, {119, 0}, {150}, {26}, {28}, {30}, {33}, {34}, {36}, {37}, {38}, {39}, {41}, {42}, {43},
            {44}, {45}, {46}};
        for (int[] operation : ones) {
            byte[] code = Code.join(Code.of(52, 52, 52), Code.of(operation));
            Check.same("reckon() of operation " + operation[0] + " with 4", answer(code, 4), 0);
            Check.same("reckon() of operation " + operation[0] + " with 3", answer(code, 3), FUEL);
        }
        // What is jumped over costs nothing, what is done again costs again: 1 + 4 for each of 3 rounds.
        byte[] over = Code.of(49, 47, 2, 0, 50, 50);
        Check.same("reckon() of a jump with 2", answer(over, 2), 0);
        Check.same("reckon() of a jump with 1", answer(over, 1), FUEL);
        byte[] rounds = Code.of(51, 49, 28, 18, 40, 0xFA, 0xFF);
        Check.same("reckon() of rounds with 13", answer(rounds, 13), 0);
        Check.same("reckon() of rounds with 12", answer(rounds, 12), FUEL);
    }

    private static void onTop() {
        leaves(new int[] {49, 3, 2, 0, 0, 0}, 2, 1);
        leaves(new int[] {49, 8, 2}, 2, 1);
        leaves(new int[] {49, 9, 2}, 2, 1);
        leaves(new int[] {49, 10, 2, 0}, 2, 1);
        leaves(new int[] {49, 11, 2, 0}, 2, 1);
        leaves(new int[] {49, 13, 2, 0, 0, 0}, 2, 1);
        leaves(new int[] {49, 16, 2}, 2, 1);
        leaves(new int[] {49, 17, 2}, 2, 1);
    }

    private static void againAndGone() {
        leaves(new int[] {49, 18}, 1, 1);
        leaves(new int[] {49, 50, 18}, 2, 2, 1);
        leaves(new int[] {49, 50, 19}, 1);
        leaves(new int[] {49, 50, 20}, 1, 2, 1);
        leaves(new int[] {49, 50, 51, 20}, 2, 3, 2, 1);
    }

    private static void nthAgain() {
        leaves(new int[] {49, 21, 0}, 1, 1);
        leaves(new int[] {49, 50, 51, 21, 0}, 3, 3, 2, 1);
        leaves(new int[] {49, 50, 51, 21, 1}, 2, 3, 2, 1);
        leaves(new int[] {49, 50, 51, 21, 2}, 1, 3, 2, 1);
        Expect.fails(STACK, 49, 50, 51, 21, 3);
        Expect.fails(STACK, 49, 50, 51, 21, 128);
        Expect.fails(STACK, 49, 50, 51, 21, 255);
        Expect.fails(STACK, 21, 0);
        Expect.gives(5, Code.join(Code.of(53), fill(49, 14), Code.of(21, 14)));
        // What comes behind keeps an operation that was left out from failing by an empty stack.
        for (int n = 0; n < 256; n++) {
            int most = Math.min(n, 15);
            Expect.fails(STACK, Code.join(fill(49, most), Code.of(21, n), Code.of(150)));
            Expect.fails(STACK, Code.join(SIXTEEN, Code.of(21, n), Code.of(150)));
            if (n < 15) {
                Expect.gives(5, Code.join(Code.of(53), fill(49, n), Code.of(21, n)));
            }
        }
        Expect.fails(STACK, 21, 0, 49);
    }

    private static void changes() {
        leaves(new int[] {49, 50, 22}, 1, 2);
        leaves(new int[] {49, 50, 51, 22}, 2, 3, 1);
        leaves(new int[] {49, 50, 51, 23}, 2, 1, 3);
        leaves(new int[] {52, 49, 50, 51, 23}, 2, 1, 3, 4);
        Expect.gives(2, Code.join(fill(49, 14), Code.of(50, 49, 22)));
        Expect.gives(2, Code.join(fill(49, 14), Code.of(50, 49, 23)));
    }

    private static void word() {
        FrameUnwinder x = Code.load(Code.of(53, 112, 0, 6, 34));
        for (int address : new int[] {0, 4, 1016, 1020}) {
            x.word(address, 1000 + address);
            x.register(0, address);
            Check.same("reckon() of the word at " + address, x.reckon(1, 4, 9), 0);
            Check.same("value()", x.value(), 1000 + address);
            Check.same("reckon() of 5 and the word at " + address, x.reckon(0, 5, 9), 0);
            Check.same("value()", x.value(), 1005 + address);
        }
    }

    private static void size() {
        one(MIN, 25, MIN);
        one(MAX, 25, MIN + 1);
        one(MAX, 25, MAX);
        one(1, 25, -1);
        one(0, 25, 0);
    }

    private static void minusAndTurned() {
        one(MIN, 31, MIN);
        one(-MAX, 31, MAX);
        one(0, 31, 0);
        one(1, 31, -1);
        one(MAX, 32, MIN);
        one(MIN, 32, MAX);
        one(-1, 32, 0);
    }

    private static void soMuchMore() {
        Expect.gives(1, 49, 35, 0);
        Expect.gives(128, 49, 35, 127);
        Expect.gives(129, 49, 35, 128, 1);
        Expect.gives(0, 49, 35, 255, 255, 255, 255, 15);
        Expect.gives(MIN, Code.join(number(MAX), Code.of(35, 1)));
        leaves(new int[] {52, 49, 35, 2}, 3, 4);
    }

    private static void bothReplaced() {
        for (int operation : new int[] {26, 27, 28, 29, 30, 33, 34, 36, 37, 38, 39, 41, 42, 43, 44, 45, 46}) {
            FrameUnwinder x = Code.load(Code.of(57, 50, 51, operation, 19, 19));
            Check.same("reckon() of the number below " + operation, x.reckon(0, 5, 9), 0);
            Check.same("value()", x.value(), 9);
            Check.same("reckon() of what is below that", x.reckon(0, 6, 9), STACK);
        }
        leaves(new int[] {57, 55, 51, 28}, 4, 9);
        leaves(new int[] {57, 55, 51, 27}, 2, 9);
        leaves(new int[] {57, 55, 51, 43}, 1, 9);
        leaves(new int[] {57, 49, 51, 36}, 8, 9);
    }

    private static void bits() {
        two(0x0C30, 26, 0x0FF0, 0x3C3C);
        two(0x3FFC, 33, 0x0FF0, 0x3C3C);
        two(0x33CC, 39, 0x0FF0, 0x3C3C);
        two(MIN, 26, MIN, -1);
        two(-1, 33, MIN, MAX);
        two(0, 39, -1, -1);
    }

    private static void divided() {
        two(3, 27, 7, 2);
        two(-3, 27, -7, 2);
        two(-3, 27, 7, -2);
        two(3, 27, -7, -2);
        two(MIN, 27, MIN, -1);
        two(-1, 27, MIN, MAX);
        two(0, 27, MAX, MIN);
        two(0, 27, 0, -9);
        two(MIN, 27, MIN, 1);
    }

    private static void remainder() {
        two(1, 29, 7, 2);
        two(-1, 29, -7, 2);
        two(1, 29, 7, -2);
        two(-1, 29, -7, -2);
        two(0, 29, MIN, -1);
        two(-1, 29, MIN, MAX);
        two(MAX, 29, MAX, MIN);
        two(0, 29, 0, 9);
    }

    private static void wrapping() {
        two(MAX, 28, MIN, 1);
        two(MIN, 28, MAX, -1);
        two(MIN, 28, 0, MIN);
        two(MIN, 34, MAX, 1);
        two(MAX, 34, MIN, -1);
        two(0, 34, MIN, MIN);
        two(0, 30, 65536, 65536);
        two(131073, 30, 65537, 65537);
        two(MIN, 30, MIN, -1);
        two(1, 30, MAX, MAX);
    }

    private static void shifts() {
        for (int b : new int[] {0, 1, 30, 31}) {
            for (int a : new int[] {1, -1, MIN, MAX, 0x40000001, 0}) {
                two(a << b, 36, a, b);
                two(a >>> b, 37, a, b);
                two(a >> b, 38, a, b);
            }
        }
    }

    private static void farShifts() {
        for (int b : new int[] {32, 33, 63, 64, -1, -31, -32, MIN, MAX}) {
            for (int a : new int[] {1, MAX, 0, -1, MIN}) {
                two(0, 36, a, b);
                two(0, 37, a, b);
                two(a < 0 ? -1 : 0, 38, a, b);
            }
        }
    }

    private static void comparisons() {
        int[][] due = {{0, 0, 1, 1, 0, 1, 0, 0}, {1, 0, 0, 1, 1, 0, 0, 1}, {0, 1, 0, 0, 0, 1, 1, 1},
            {-1, 1, 0, 0, 0, 1, 1, 1}, {1, -1, 0, 1, 1, 0, 0, 1}, {MIN, MAX, 0, 0, 0, 1, 1, 1},
            {MAX, MIN, 0, 1, 1, 0, 0, 1}, {MIN, MIN, 1, 1, 0, 1, 0, 0}, {-1, -1, 1, 1, 0, 1, 0, 0}};
        for (int[] one : due) {
            for (int operation = 41; operation <= 46; operation++) {
                two(one[operation - 39], operation, one[0], one[1]);
            }
        }
    }

    private static void jumpsUnlessZero() {
        leaves(new int[] {49, 40, 0, 0, 50}, 2);
        leaves(new int[] {52, 49, 40, 1, 0, 50}, 4);
        leaves(new int[] {52, 48, 40, 1, 0, 50}, 2, 4);
        Expect.gives(4, Code.join(Code.of(52), number(MIN), Code.of(40, 1, 0, 50)));
        Expect.gives(4, Code.join(Code.of(52), number(-1), Code.of(40, 1, 0, 50)));
        leaves(new int[] {52, 49, 40, 0, 0, 50}, 2, 4);
        // Down to 0 in rounds, back to the byte behind the first one.
        leaves(new int[] {79, 49, 28, 18, 40, 0xFA, 0xFF}, 0);
        // A jump that isn't made has nowhere to go to.
        Expect.gives(4, 52, 48, 40, 255, 127);
        Expect.gives(4, 52, 48, 40, 0, 128);
    }

    private static byte[] jump(int distance) {
        return new Code().u1(47).number(2, distance).bytes();
    }

    private static void jumps() {
        leaves(new int[] {49, 47, 1, 0, 50}, 1);
        leaves(new int[] {49, 47, 0, 0, 50}, 2, 1);
        // Into the middle of an operation, whose operand 50 is the number 2 then.
        leaves(new int[] {49, 47, 1, 0, 8, 50}, 2, 1);
        // Over 300 bytes that are no operations, back over them, and over them again to the end.
        Expect.gives(2, Code.join(jump(300), fill(255, 300), Code.of(50)));
        Expect.gives(2, Code.join(jump(304), Code.of(50), jump(303), fill(255, 300), jump(-307)));
    }

    private static void smallNumbers() {
        for (int n = 0; n < 32; n++) {
            leaves(new int[] {57, 48 + n}, n, 9);
        }
        Expect.fails(BYTES, 80);
        Expect.fails(BYTES, 48, 24);
    }

    private static void registers() {
        FrameUnwinder x = Code.load(Code.of(112, 0, 113, 0, 114, 0, 115, 0, 116, 0, 117, 0, 118, 0, 119, 0));
        for (int r = 0; r < 8; r++) {
            x.register(r, 100 * r + 7);
            for (int more : new int[] {0, 1, 63, -1, -64}) {
                x.spoil(2 * r + 1, more & 127);
                Check.same("reckon() of register " + r, x.reckon(2 * r, 2 * r + 2, 1), 0);
                Check.same("value() of register " + r + " and " + more, x.value(), 100 * r + 7 + more);
            }
        }
        x.register(0, MAX);
        x.spoil(1, 1);
        x.reckon(0, 2, 1);
        Check.same("value() of MAX and 1", x.value(), MIN);
        x.register(7, MIN);
        x.reckon(14, 16, 1);
        Check.same("value() of MIN and -64", x.value(), MAX - 63);
        Expect.fails(BYTES, 49, 111, 0);
        Expect.fails(BYTES, 49, 120, 0);
    }

    private static void nothing() {
        leaves(new int[] {49, 50, 150}, 2, 1);
        leaves(new int[] {150, 150, 49}, 1);
        Expect.gives(1, Code.join(SIXTEEN, Code.of(150)));
        Expect.fails(STACK, 150);
    }

    private static void endAndValue() {
        Expect.gives(1, 49);
        Expect.gives(3, 49, 50, 51);
        Expect.gives(1, 49, 47, 0, 0);
        Expect.gives(1, 49, 47, 2, 0, 50, 50);
        FrameUnwinder x = Code.load(Code.of(49, 50, 255));
        Check.same("reckon() ahead of a byte that is none", x.reckon(0, 2, 9), 0);
        Check.same("value()", x.value(), 2);
    }

    private static void noFuel() {
        Check.same("reckon() of one with 0", answer(Code.of(49), 0), FUEL);
        Check.same("reckon() of one with 1", answer(Code.of(49), 1), 0);
        Check.same("reckon() of an endless jump", answer(Code.of(47, 0xFD, 0xFF), 2000), FUEL);
        Check.same("reckon() of an endless round", answer(Code.of(49, 49, 40, 0xFC, 0xFF), 2000), FUEL);
        // 1 and 4 * 499 and 3 more: 2000 are done, 2001 are too many.
        byte[] most = Code.join(new Code().u1(10).number(2, 499).bytes(), Code.of(49, 28, 18, 40, 0xFA, 0xFF),
            fill(150, 3));
        Check.same("reckon() of 2000 operations", answer(most, 2000), 0);
        Check.same("reckon() of 2001 operations", answer(Code.join(most, fill(150, 1)), 2000), FUEL);
        // What failed before it ran out fails so.
        Check.same("reckon() of a failure with the last fuel", answer(Code.of(49, 34), 2), STACK);
        Check.same("reckon() of a failure behind the last fuel", answer(Code.of(49, 34), 1), FUEL);
    }

    private static void noOperation() {
        for (int b = 0; b < 256; b++) {
            int operand = operandOf(b);
            byte[] code = Code.join(Code.of(52, 52, 52, b), fill(0, Math.max(operand, 0)));
            Check.same("reckon() of operation " + b, answer(code, 4), operand < 0 ? BYTES : 0);
        }
    }

    /** How many bytes of 0 an operation needs behind it; -1 if there is no such operation. */
    private static int operandOf(int b) {
        switch (b) {
            case 3: case 13:
                return 4;
            case 10: case 11: case 40: case 47:
                return 2;
            case 8: case 9: case 16: case 17: case 21: case 35:
                return 1;
            case 6: case 18: case 19: case 20: case 22: case 23: case 150:
                return 0;
            default:
                return b >= 25 && b <= 79 ? 0 : b >= 112 && b <= 119 ? 1 : -1;
        }
    }

    private static void beyondTheEnd() {
        int[][] whole = {{3, 0, 0, 0, 0}, {8, 0}, {9, 0}, {10, 0, 0}, {11, 0, 0}, {13, 0, 0, 0, 0}, {16, 0},
            {16, 128, 128, 0}, {17, 0}, {17, 128, 128, 0}, {21, 0}, {35, 0}, {35, 128, 128, 0}, {40, 0, 0},
            {47, 0, 0}, {112, 0}, {119, 128, 128, 0}};
        for (int[] operation : whole) {
            byte[] code = Code.join(Code.of(50, 50), Code.of(operation), new byte[4]);
            FrameUnwinder x = Code.load(code);
            int end = 2 + operation.length;
            Check.same("reckon() of operation " + operation[0], x.reckon(0, end, 9), 0);
            for (int to = 3; to < end; to++) {
                Check.same("reckon() of operation " + operation[0] + " up to " + to, x.reckon(0, to, 9), BYTES);
                Check.same("value()", x.value(), 0);
                x.end(to);
                Check.same("reckon() of operation " + operation[0] + " up to the end", x.reckon(0, to, 9), BYTES);
                Code.feed(emptied(x), code);
            }
        }
    }

    private static FrameUnwinder emptied(FrameUnwinder x) {
        x.end(0);
        return x;
    }

    private static void jumpBeforeTheBeginning() {
        Expect.fails(STACK, 49, 47, 0xFC, 0xFF);
        Expect.fails(BYTES, 49, 47, 0xFB, 0xFF);
        Expect.fails(BYTES, 49, 49, 40, 0xFA, 0xFF);
        Expect.fails(BYTES, 49, 47, 0, 0x80);
        FrameUnwinder x = Code.load(Code.of(150, 49, 47, 0xFB, 0xFF));
        Check.same("reckon() of a jump before a part", x.reckon(1, 5, 9), BYTES);
        Check.same("reckon() of the same jump in the whole", x.reckon(0, 5, 9), FUEL);
    }

    private static void jumpBeyondTheEnd() {
        Expect.gives(1, 49, 47, 0, 0);
        Expect.fails(BYTES, 49, 47, 1, 0);
        Expect.fails(BYTES, 49, 47, 255, 127);
        Expect.gives(1, 49, 49, 40, 0, 0);
        Expect.fails(BYTES, 49, 49, 40, 1, 0);
        FrameUnwinder x = Code.load(Code.of(49, 47, 1, 0, 150));
        Check.same("reckon() of a jump beyond a part", x.reckon(0, 4, 9), BYTES);
        Check.same("reckon() of the same jump in the whole", x.reckon(0, 5, 9), 0);
    }

    private static void noCfa() {
        Expect.fails(BYTES, 156);
        Expect.fails(BYTES, 49, 156);
        Expect.fails(BYTES, Code.join(SIXTEEN, Code.of(156)));
    }

    /** Nor is it on the stack, nor is that of an unwound frame still there. */
    private static void withoutCfa() {
        Expect.fails(STACK, 18);
        Expect.fails(BYTES, 156);
        FrameUnwinder x = Code.load(Code.common(1, 1, 6, 12, 7, 0, 8, 6, 22, 0, 1, 156), Code.frame(0, 0, 9));
        Check.same("unwind()", x.unwind(9), 0);
        Check.same("reckon() of CFA after it", x.reckon(20, 21, 9), BYTES);
    }

    private static void tooMany() {
        int[][] pushing = {{3, 0, 0, 0, 0}, {8, 0}, {9, 0}, {10, 0, 0}, {11, 0, 0}, {13, 0, 0, 0, 0}, {16, 0},
            {17, 0}, {18}, {20}, {21, 0}, {21, 14}};
        for (int[] operation : pushing) {
            oneTooMany(operation);
        }
        for (int small = 48; small < 80; small++) {
            oneTooMany(small);
        }
        for (int r = 0; r < 8; r++) {
            oneTooMany(112 + r, 0);
        }
        int[] others = {19, 22, 23, 25, 26, 27, 28, 29, 30, 31, 32, 33, 34, 36, 37, 38, 39, 41, 42, 43, 44, 45, 46,
            150};
        for (int operation : others) {
            byte[] fits = Code.join(SIXTEEN, Code.of(operation));
            Check.same("reckon() of operation " + operation + " on sixteen", answer(fits, 99), 0);
        }
    }

    private static void oneTooMany(int... operation) {
        Expect.fails(STACK, Code.join(SIXTEEN, Code.of(operation)));
        byte[] fits = Code.join(FIFTEEN, Code.of(operation));
        Check.same("reckon() of operation " + operation[0] + " on fifteen", answer(fits, 99), 0);
    }

    private static void tooFew() {
        int[][] needs = {{1, 6}, {1, 18}, {1, 19, 50}, {2, 20}, {1, 21, 0}, {2, 21, 1}, {2, 22}, {3, 23}, {1, 25},
            {1, 31}, {1, 32}, {1, 35, 0}, {1, 40, 0, 0, 50}, {2, 26}, {2, 27}, {2, 28}, {2, 29}, {2, 30}, {2, 33},
            {2, 34}, {2, 36}, {2, 37}, {2, 38}, {2, 39}, {2, 41}, {2, 42}, {2, 43}, {2, 44}, {2, 45}, {2, 46}};
        for (int[] need : needs) {
            byte[] operation = Code.of(Arrays.copyOfRange(need, 1, need.length));
            byte[] enough = Code.join(fill(52, need[0]), operation);
            Check.same("reckon() of operation " + need[1] + " on " + need[0], answer(enough, 99), 0);
            for (int fewer = 0; fewer < need[0]; fewer++) {
                // The number behind it, so that it can't be the end that has none.
                Expect.fails(STACK, Code.join(fill(52, fewer), operation, Code.of(49)));
            }
        }
    }

    private static void noneAtTheEnd() {
        Expect.fails(STACK);
        Expect.fails(STACK, 49, 19);
        Expect.fails(STACK, 49, 40, 0, 0);
        Expect.fails(STACK, 150, 150);
        Expect.fails(STACK, 47, 0, 0);
        Check.same("reckon() of nothing without fuel", answer(new byte[0], 0), STACK);
    }

    private static void noAddress() {
        FrameUnwinder x = Code.load(Code.of(112, 0, 6));
        for (int address : new int[] {-4, -1, 1, 2, 3, 1017, 1019, 1021, 1024, 1028, MIN, MIN + 4, MAX, MAX - 3}) {
            x.register(0, address);
            Check.same("reckon() of a word at " + address, x.reckon(0, 3, 9), READ);
            Check.same("value()", x.value(), 0);
        }
    }

    /** An object whose registers 0 and 7 aren't known, with this section. */
    private static FrameUnwinder withoutRegisters(byte[] code) {
        FrameUnwinder x = Code.load(Code.common(1, 1, 6, 12, 7, 0, 8, 6, 7, 0, 7, 7), Code.frame(0, 0, 9));
        x.register(0, 5);
        Check.same("unwind()", x.unwind(0), 0);
        Check.same("get(9)", x.get(9), 126);
        x.end(0);
        Code.feed(x, code);
        return x;
    }

    private static void unknownRegister() {
        FrameUnwinder x = withoutRegisters(Code.of(112, 0, 113, 0, 119, 1));
        Check.same("reckon() of register 0", x.reckon(0, 2, 9), READ);
        Check.same("reckon() of register 1", x.reckon(2, 4, 9), 0);
        Check.same("reckon() of register 7", x.reckon(4, 6, 9), READ);
        Check.same("value()", x.value(), 0);
        x.register(0, 0);
        x.register(7, 8);
        Check.same("reckon() of register 0, known again", x.reckon(0, 2, 9), 0);
        Check.same("reckon() of register 7, known again", x.reckon(4, 6, 9), 0);
        Check.same("value()", x.value(), 9);
        for (int r = 0; r < 8; r++) {
            withoutRegister(r);
        }
    }

    private static void withoutRegister(int lost) {
        int back = lost == 6 ? 5 : 6;
        FrameUnwinder x = Code.load(Code.common(1, 1, back, 12, 7, 0, 8, back, 7, lost), Code.frame(0, 0, 9));
        Check.same("unwind()", x.unwind(0), 0);
        x.end(0);
        Code.feed(x, Code.of(112, 0, 113, 0, 114, 0, 115, 0, 116, 0, 117, 0, 118, 0, 119, 0));
        for (int r = 0; r < 8; r++) {
            Check.same("reckon() of register " + r + " without " + lost, x.reckon(2 * r, 2 * r + 2, 9),
                r == lost ? READ : 0);
        }
    }

    private static void divisionByZero() {
        for (int operation : new int[] {27, 29}) {
            for (int a : new int[] {0, 1, -1, MIN}) {
                Expect.fails(DIVISION, Code.join(number(a), Code.of(48, operation)));
            }
            Expect.fails(DIVISION, 52, 52, 48, operation);
        }
    }

    private static void whatGoesFirst() {
        // Beyond the end, on an empty stack and on a full one.
        Expect.fails(BYTES, 35);
        Expect.fails(BYTES, 21);
        Expect.fails(BYTES, 40, 0);
        Expect.fails(BYTES, Code.join(SIXTEEN, Code.of(8)));
        Expect.fails(BYTES, Code.join(SIXTEEN, Code.of(112)));
        Expect.fails(BYTES, Code.join(SIXTEEN, Code.of(17, 128)));
        // No operation, and no CFA, on a full stack.
        Expect.fails(BYTES, Code.join(SIXTEEN, Code.of(255)));
        Expect.fails(BYTES, Code.join(SIXTEEN, Code.of(156)));
        // A division by 0 with one number alone.
        Expect.fails(STACK, 48, 27);
        Expect.fails(STACK, 48, 29);
        FrameUnwinder x = withoutRegisters(Code.join(SIXTEEN, Code.of(112, 0, 112)));
        Check.same("reckon() of an unknown register on a full stack", x.reckon(0, 18, 99), STACK);
        Check.same("reckon() of an unknown register on fifteen", x.reckon(1, 18, 99), READ);
        Check.same("reckon() of half an unknown register", x.reckon(18, 19, 99), BYTES);
    }

    private static void fromOnePlaceToAnother() {
        byte[] code = new byte[512];
        Arrays.fill(code, (byte) 150);
        code[0] = 49;
        code[255] = 50;
        code[511] = 51;
        FrameUnwinder x = Code.load(code);
        int[][] due = {{0, 1, 1}, {0, 255, 1}, {0, 256, 2}, {1, 256, 2}, {255, 256, 2}, {0, 511, 2}, {0, 512, 3},
            {511, 512, 3}};
        for (int[] one : due) {
            String call = "reckon(" + one[0] + ", " + one[1] + ", 2000)";
            Check.same(call, x.reckon(one[0], one[1], 2000), 0);
            Check.same("value() of " + call, x.value(), one[2]);
        }
        Check.same("reckon(1, 255, 2000)", x.reckon(1, 255, 2000), STACK);
        Check.same("reckon(512, 512, 2000)", x.reckon(512, 512, 2000), STACK);
        // The section needn't be sound: this one isn't, nor is it asked to be.
        Check.same("fault()", x.fault(), 0);
    }

    private static void answers() {
        Check.same("reckon() that doesn't fail", answer(Code.of(49), 9), 0);
        Check.same("reckon() without fuel", answer(Code.of(49, 50), 1), 1);
        Check.same("reckon() of no operation", answer(Code.of(0), 9), 2);
        Check.same("reckon() of too few numbers", answer(Code.of(34), 9), 3);
        Check.same("reckon() of a bad address", answer(Code.of(49, 6), 9), 4);
        Check.same("reckon() of a division by 0", answer(Code.of(49, 48, 27), 9), 5);
    }

    private static void noSuchPlaces() {
        FrameUnwinder x = Code.load(Code.of(49, 50, 51));
        int[][] none = {{0, 4}, {3, 4}, {4, 4}, {-1, 0}, {-1, 2}, {-1, -1}, {1, 0}, {2, 1}, {3, 2}, {3, 0}, {0, -1},
            {MIN, MAX}, {MAX, MIN}, {MIN, MIN}, {MAX, MAX}, {0, MAX}, {MIN, 3}};
        for (int[] pair : none) {
            Check.refused("reckon(" + pair[0] + ", " + pair[1] + ", 9)", IllegalArgumentException.class,
                () -> x.reckon(pair[0], pair[1], 9));
        }
        Check.same("reckon(0, 3, 9)", x.reckon(0, 3, 9), 0);
        Check.same("reckon(3, 3, 9)", x.reckon(3, 3, 9), STACK);
        x.end(2);
        Check.refused("reckon(0, 3, 9) of two bytes", IllegalArgumentException.class, () -> x.reckon(0, 3, 9));
        Check.same("reckon(0, 2, 9) of two bytes", x.reckon(0, 2, 9), 0);
        FrameUnwinder empty = new FrameUnwinder();
        Check.same("reckon(0, 0, 0) of nothing", empty.reckon(0, 0, 0), STACK);
        Check.refused("reckon(0, 1, 0) of nothing", IllegalArgumentException.class, () -> empty.reckon(0, 1, 0));
    }

    private static void noSuchFuel() {
        FrameUnwinder x = Code.load(Code.of(49));
        for (int fuel : new int[] {-1, 2001, MIN, MAX}) {
            Check.refused("reckon(0, 1, " + fuel + ")", IllegalArgumentException.class, () -> x.reckon(0, 1, fuel));
        }
        Check.same("reckon(0, 1, 0)", x.reckon(0, 1, 0), FUEL);
        Check.same("reckon(0, 1, 2000)", x.reckon(0, 1, 2000), 0);
    }

    private static void lastValue() {
        FrameUnwinder x = Code.load(Code.common(1, 1, 6, 15, 1, 60, 8, 6), Code.frame(0, 0, 9));
        Check.same("reckon(14, 15, 9)", x.reckon(14, 15, 9), 0);
        Check.same("value()", x.value(), 12);
        Check.same("value() again", x.value(), 12);
        x.spoil(14, 61);
        x.register(0, 3);
        x.start(0);
        Check.same("unwind()", x.unwind(9), 0);
        Check.same("value() after an unwound frame", x.value(), 12);
        x.end(0);
        Check.same("value() of no bytes any more", x.value(), 12);
        Check.refused("reckon(0, 1, 9)", IllegalArgumentException.class, () -> x.reckon(0, 1, 9));
        Check.same("value() after a call that threw", x.value(), 12);
    }

    private static void noValue() {
        Check.same("value() of a new object", new FrameUnwinder().value(), 0);
        FrameUnwinder x = Code.load(Code.of(57, 34, 6, 48, 27, 255));
        int[][] failing = {{0, 1, 0, FUEL}, {5, 6, 9, BYTES}, {0, 2, 9, STACK}, {1, 1, 9, STACK}};
        for (int[] one : failing) {
            Check.same("reckon(0, 1, 9)", x.reckon(0, 1, 9), 0);
            Check.same("value()", x.value(), 9);
            Check.same("reckon() that fails", x.reckon(one[0], one[1], one[2]), one[3]);
            Check.same("value() after it", x.value(), 0);
        }
        x.spoil(1, 6);
        x.reckon(0, 1, 9);
        Check.same("reckon() of a bad address", x.reckon(0, 2, 9), READ);
        Check.same("value() after it", x.value(), 0);
        x.spoil(2, 57);
        x.reckon(0, 1, 9);
        Check.same("reckon() of a division by 0", x.reckon(2, 5, 9), DIVISION);
        Check.same("value() after it", x.value(), 0);
    }
}
