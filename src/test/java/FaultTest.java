/** Promises 5 (fault) and 6 (entries). */
public final class FaultTest {
    /** How many bytes a common entry of COMMON has, and so where the next entry begins. */
    private static final int NEXT = 12;
    private static final byte[] COMMON = Code.common(1, -4, 6);
    private static final int[] LONG_LEB = {0x80, 0x80, 0x80, 0x80, 0x80, 0};

    private FaultTest() {
    }

    public static void main(String[] args) {
        soundSections();
        lengths();
        ids();
        commonHeads();
        frameHeads();
        tooManyEntries();
        instructionsThatAre();
        instructionsThatAreNot();
        instructionsBeyondTheirEntry();
        registersOfInstructions();
        commonInstructions();
        remembering();
        faultFollowsTheBytes();
        Check.finish();
    }

    private static void unsound(String what, int place, byte[]... parts) {
        Expect.fault(what, place, parts);
        FrameUnwinder x = Code.load(parts);
        Check.refused("find() of " + what, IllegalStateException.class, () -> x.find(0));
        Check.refused("row() of " + what, IllegalStateException.class, () -> x.row(0, 0, 0));
        Check.refused("unwind() of " + what, IllegalStateException.class, () -> x.unwind(9));
        Check.refused("row() of " + what + " with a wrong register", IllegalStateException.class,
            () -> x.row(0, 9, 9));
        Check.refused("unwind() of " + what + " with wrong fuel", IllegalStateException.class,
            () -> x.unwind(-1));
    }

    private static void soundSections() {
        Check.same("length of COMMON", COMMON.length, NEXT);
        Expect.sound("nothing", 0);
        Expect.sound("a common entry", 1, COMMON);
        Expect.sound("a frame entry behind its common one", 2, COMMON, Code.frame(0, 0, 0));
        Expect.sound("a frame entry of the second common one", 3,
            COMMON, COMMON, Code.frame(NEXT, 0, Integer.MAX_VALUE));
        Expect.sound("a frame entry of the first common one", 4,
            COMMON, Code.frame(0, Integer.MAX_VALUE, Integer.MAX_VALUE), COMMON, Code.frame(0, 1, 2));
    }

    private static void lengths() {
        for (int size = 1; size < 4; size++) {
            unsound(size + " bytes", 0, new byte[size]);
            unsound(size + " bytes behind an entry", NEXT, COMMON, new byte[size]);
        }
        for (int length = 0; length < 4; length++) {
            unsound("a length of " + length, 0, Code.u4(length), new byte[length]);
        }
        unsound("a length below 0", 0, Code.u4(-8), new byte[8]);
        unsound("the lowest length", 0, Code.u4(Integer.MIN_VALUE), new byte[8]);
        unsound("the greatest length", 0, Code.u4(Integer.MAX_VALUE), new byte[8]);
        unsound("a length beyond the section", 0, Code.u4(5), Code.u4(-1));
        unsound("a second length beyond the section", NEXT, COMMON, Code.u4(9), Code.u4(-1), new byte[4]);
        unsound("a length of 0 behind an entry", NEXT, COMMON, Code.u4(0));
    }

    private static void ids() {
        byte[] frame = Code.frame(0, 0, 1);
        unsound("no common entry at all", 4, frame);
        unsound("an id inside an entry", NEXT + 4, COMMON, Code.frame(4, 0, 1));
        unsound("an id of a frame entry", NEXT + frame.length + 4, COMMON, frame, Code.frame(NEXT, 0, 1));
        unsound("an id of itself", NEXT + 4, COMMON, Code.frame(NEXT, 0, 1));
        unsound("an id of a later entry", NEXT + 4, COMMON, Code.frame(NEXT + frame.length, 0, 1), COMMON);
        unsound("an id of -2", NEXT + 4, COMMON, Code.frame(-2, 0, 1));
        unsound("an id alone, of nothing", NEXT + 4, COMMON, Code.entry(Code.u4(1)));
    }

    private static byte[] commonOf(int... behindId) {
        return Code.entry(Code.join(Code.u4(-1), Code.of(behindId)));
    }

    private static void commonHeads() {
        unsound("no 1", 8, commonOf());
        unsound("0 for 1", 8, commonOf(0, 1, 1, 1));
        unsound("2 for 1", 8, commonOf(2, 1, 1, 1));
        unsound("no code factor", 9, commonOf(1));
        unsound("half a code factor", 9, commonOf(1, 0x80));
        unsound("a code factor of six bytes", 9, commonOf(1, 0x80, 0x80, 0x80, 0x80, 0x80, 0, 1, 1));
        unsound("no data factor", 10, commonOf(1, 1));
        unsound("half a data factor", 11, commonOf(1, 0x81, 0, 0xFF));
        unsound("a data factor of six bytes", 10, commonOf(1, 1, 0x80, 0x80, 0x80, 0x80, 0x80, 0, 1));
        unsound("no return register", 11, commonOf(1, 1, 1));
        unsound("half a return register", 11, commonOf(1, 1, 1, 0x80));
        unsound("return register 8", 11, commonOf(1, 1, 1, 8));
        unsound("return register -1", 11, commonOf(1, 1, 1, 0xFF, 0xFF, 0xFF, 0xFF, 0x0F));
        unsound("a second entry's return register", NEXT + 11, COMMON, commonOf(1, 1, 1, 9));
        for (int size = 0; size < 4; size++) {
            int[] part = java.util.Arrays.copyOf(new int[] {1, 1, 1, 1}, size);
            unsound(size + " numbers and more bytes behind the entry", 8 + size,
                commonOf(part), Code.of(1, 1, 1, 1, 0, 0, 0, 0));
        }
        Expect.sound("return register 7", 1, commonOf(1, 1, 1, 7));
        Expect.sound("numbers of five bytes", 1, commonOf(1, 0xFF, 0xFF, 0xFF, 0xFF, 0x7F,
            0x80, 0x80, 0x80, 0x80, 0x70, 0x87, 0x80, 0x80, 0x80, 0));
        Expect.sound("a return register with bits above 32", 1, commonOf(1, 1, 1, 0x87, 0x80, 0x80, 0x80, 0x70));
    }

    private static void frameHeads() {
        byte[] id = Code.u4(0);
        for (int size = 0; size < 8; size++) {
            unsound(size + " bytes and more behind the entry", NEXT + (size < 4 ? 8 : 12), COMMON,
                Code.entry(Code.join(id, new byte[size])), new byte[20]);
        }
        unsound("no first", NEXT + 8, COMMON, Code.entry(id));
        unsound("half a first", NEXT + 8, COMMON, Code.entry(Code.join(id, new byte[3])));
        unsound("no range", NEXT + 12, COMMON, Code.entry(Code.join(id, new byte[4])));
        unsound("half a range", NEXT + 12, COMMON, Code.entry(Code.join(id, new byte[7])));
        Expect.sound("first and range alone", 2, COMMON, Code.entry(Code.join(id, new byte[8])));
        unsound("first below 0", NEXT + 8, COMMON, Code.frame(0, -1, -1));
        unsound("the lowest first", NEXT + 8, COMMON, Code.frame(0, Integer.MIN_VALUE, 4));
        unsound("first below 0 without a range", NEXT + 8, COMMON, Code.entry(Code.join(id, Code.u4(-1))));
        unsound("range below 0", NEXT + 12, COMMON, Code.frame(0, 0, -1));
    }

    private static void tooManyEntries() {
        byte[] sixteen = new byte[0];
        for (int k = 0; k < 16; k++) {
            sixteen = Code.join(sixteen, COMMON);
        }
        Expect.sound("sixteen entries", 16, sixteen);
        unsound("seventeen entries", 16 * NEXT, sixteen, COMMON);
        unsound("sixteen entries and a byte", 16 * NEXT, sixteen, new byte[1]);
        byte[] seventeen = Code.join(sixteen, COMMON);
        seventeen[15 * NEXT + 8] = 2;
        unsound("a wrong byte in the sixteenth of seventeen", 15 * NEXT + 8, seventeen);
    }

    private static byte[] frameOf(int... instructions) {
        return Code.frame(0, 0, 9, instructions);
    }

    /** Where the instructions of a frame entry behind COMMON begin. */
    private static final int INSIDE = NEXT + 16;

    private static void instructionsThatAre() {
        Expect.sound("every instruction", 2, COMMON, frameOf(
            0, 1, 9, 0, 0, 0, 2, 255, 3, 255, 255, 4, 255, 255, 255, 255, 5, 7, 1, 6, 7, 7, 7, 8, 7,
            9, 7, 7, 10, 11, 12, 7, 1, 13, 7, 14, 1, 15, 2, 255, 255, 16, 7, 1, 255, 17, 7, 0x7F,
            18, 7, 0x7F, 19, 0x7F, 20, 7, 1, 21, 7, 0x7F, 22, 7, 1, 255, 0x7F, 0x40, 0x87, 1, 0xC7));
        Expect.sound("expressions without bytes", 2, COMMON, frameOf(15, 0, 16, 1, 0, 22, 1, 0));
        Expect.sound("registers of five bytes", 2, COMMON, frameOf(7, 0x87, 0x80, 0x80, 0x80, 0));
        Expect.sound("a register with bits above 32", 2, COMMON, frameOf(7, 0x87, 0x80, 0x80, 0x80, 0x10));
        Expect.sound("a number of five bytes", 2, COMMON, frameOf(14, 0xFF, 0xFF, 0xFF, 0xFF, 0x7F));
    }

    private static void instructionsThatAreNot() {
        for (int b = 23; b < 64; b++) {
            unsound("instruction " + b, INSIDE + 2, COMMON, frameOf(0, 0, b, 0, 0, 0));
        }
    }

    private static void instructionsBeyondTheirEntry() {
        int[][] whole = {
            {1, 0, 0, 0, 0}, {2, 0}, {3, 0, 0}, {4, 0, 0, 0, 0}, {5, 1, 1}, {6, 1}, {7, 1}, {8, 1},
            {9, 1, 1}, {12, 1, 1}, {13, 1}, {14, 1}, {15, 2, 0, 0}, {16, 1, 2, 0, 0}, {17, 1, 1},
            {18, 1, 1}, {19, 1}, {20, 1, 1}, {21, 1, 1}, {22, 1, 2, 0, 0}, {0x81, 1},
            {5, 1, 0x80, 0}, {6, 0x80, 0}, {21, 1, 0x80, 0}, {0x81, 0x80, 0}};
        for (int[] instruction : whole) {
            Expect.sound("instruction " + instruction[0], 3, COMMON, frameOf(instruction), COMMON);
            for (int size = 1; size < instruction.length; size++) {
                int[] part = java.util.Arrays.copyOf(instruction, size);
                String what = size + " bytes of instruction " + instruction[0];
                unsound(what, INSIDE, COMMON, frameOf(part), COMMON);
            }
        }
        for (int operation : new int[] {5, 12, 17, 18, 20, 21, 16, 22}) {
            unsound("a number of six bytes in " + operation, INSIDE, COMMON,
                Code.frame(0, 0, 9, Code.join(Code.of(operation, 1), Code.of(LONG_LEB))));
        }
        for (int operation : new int[] {5, 6, 13, 14, 19, 15, 0x81}) {
            unsound("a first number of six bytes in " + operation, INSIDE + 1, COMMON,
                Code.frame(0, 0, 9, Code.join(Code.of(0, operation), Code.of(LONG_LEB), new byte[2])));
        }
        unsound("an expression of 2^32 - 1 bytes", INSIDE, COMMON,
            frameOf(15, 0xFF, 0xFF, 0xFF, 0xFF, 0x0F, 0));
        unsound("an expression of 2^31 bytes", INSIDE, COMMON,
            frameOf(16, 1, 0x80, 0x80, 0x80, 0x80, 0x08, 0));
    }

    private static void registersOfInstructions() {
        for (int operation : new int[] {5, 6, 7, 8, 9, 12, 13, 16, 17, 18, 20, 21, 22}) {
            unsound("register 8 in " + operation, INSIDE, COMMON, frameOf(operation, 8, 0, 0));
            unsound("register -1 in " + operation, INSIDE, COMMON,
                frameOf(operation, 0xFF, 0xFF, 0xFF, 0xFF, 0x0F, 0, 0));
        }
        unsound("second register 8", INSIDE, COMMON, frameOf(9, 0, 8));
        unsound("second register -1", INSIDE, COMMON, frameOf(9, 0, 0xFF, 0xFF, 0xFF, 0xFF, 0x0F));
        unsound("register 8 in its own byte, OFFSET", INSIDE + 1, COMMON, frameOf(0, 0x88, 0));
        unsound("register 63 in its own byte, OFFSET", INSIDE, COMMON, frameOf(0xBF, 0));
        unsound("register 8 in its own byte, again", INSIDE, COMMON, frameOf(0xC8));
        unsound("register 63 in its own byte, again", INSIDE, COMMON, frameOf(0xFF));
    }

    private static void commonInstructions() {
        Expect.sound("every instruction of common entries", 1, Code.common(1, -4, 6,
            0, 5, 7, 1, 7, 7, 8, 7, 9, 7, 7, 12, 7, 1, 13, 7, 14, 1, 15, 1, 255, 16, 7, 1, 255,
            17, 7, 1, 18, 7, 1, 19, 1, 20, 7, 1, 21, 7, 1, 22, 7, 1, 255, 0x87, 1));
        for (int operation : new int[] {1, 2, 3, 4, 6, 10, 11, 0x40, 0x41, 0x7F, 0xC0, 0xC7}) {
            unsound("instruction " + operation + " in a common entry", NEXT + 1,
                Code.common(1, -4, 6, 0, operation, 0, 0, 0, 0));
        }
        unsound("instruction 23 in a common entry", NEXT, Code.common(1, -4, 6, 23));
        unsound("half an instruction in a common entry", NEXT, Code.common(1, -4, 6, 12, 1));
    }

    private static void remembering() {
        Expect.sound("four remembered rows", 2, COMMON, frameOf(10, 10, 10, 10));
        unsound("five remembered rows", INSIDE + 4, COMMON, frameOf(10, 10, 10, 10, 10));
        Expect.sound("five rows, one taken back", 2, COMMON, frameOf(10, 10, 10, 10, 11, 10, 11, 11, 11, 11));
        unsound("a row too many taken back", INSIDE, COMMON, frameOf(11));
        unsound("two rows taken back of one", INSIDE + 2, COMMON, frameOf(10, 11, 11));
        byte[] four = frameOf(10, 10, 10, 10);
        Expect.sound("four rows in each entry", 3, COMMON, four, four);
        unsound("a row of another entry taken back", NEXT + 2 * 16 + 4, COMMON, four, frameOf(11));
    }

    private static void faultFollowsTheBytes() {
        FrameUnwinder x = Code.load(COMMON, frameOf(7, 1, 0));
        Check.same("fault()", x.fault(), -1);
        x.spoil(INSIDE, 63);
        Check.same("fault() of a spoilt instruction", x.fault(), INSIDE);
        x.spoil(8, 3);
        Check.same("fault() of two spoilt places", x.fault(), 8);
        x.spoil(8, 1);
        x.spoil(INSIDE, 7);
        Check.same("fault() of mended places", x.fault(), -1);
        x.end(NEXT + 18);
        Check.same("fault() of a cut section", x.fault(), NEXT);
        x.end(NEXT);
        Check.same("fault() of a section cut between entries", x.fault(), -1);
        Check.same("entries() of a section cut between entries", x.entries(), 1);
        x.feed(0);
        Check.same("fault() of a section with four bytes more", x.fault(), NEXT);
    }
}
