import java.util.Arrays;

/** Each edge that the document names of numbers, of the section and its entries, and of its faults. */
public final class SectionEdgesTest {
    private static final int MIN = Integer.MIN_VALUE;
    private static final int MAX = Integer.MAX_VALUE;
    private static final int BYTES = 2;

    /** A common entry of 12 bytes: the factors are 1 and -4, the return register is 6. */
    private static final byte[] COMMON = Code.common(1, -4, 6);
    private static final int NEXT = 12;
    /** Where the instructions of a frame entry behind COMMON begin. */
    private static final int INSIDE = 28;
    private static final byte[] FRAME = Code.frame(0, 0, 9);

    private SectionEdgesTest() {
    }

    public static void main(String[] args) {
        numbers();
        entries();
        instructions();
        faults();
        Check.finish();
    }

    private static void numbers() {
        Check.sentence("The SECTION is a row of at most 512 bytes.", SectionEdgesTest::fullSection);
        Check.sentence("U1, U2, U4 are numbers of 1, 2, 4 bytes without sign", SectionEdgesTest::withoutSign);
        Check.sentence("the lowest byte first", SectionEdgesTest::lowestFirst);
        Check.sentence("(U4 as an int)", SectionEdgesTest::fourBytesAsAnInt);
        Check.sentence("S1, S2 such with sign", SectionEdgesTest::withSign);
        Check.sentence("ULEB: seven bits a byte, the lowest first, the bit 128 tells that one more byte follows",
            SectionEdgesTest::ulebs);
        Check.sentence("SLEB the same, the last byte's bit 64 being the sign.", SectionEdgesTest::slebs);
        Check.sentence("(Both have at most five bytes", SectionEdgesTest::fiveBytes);
        Check.sentence("bits above 32 are lost.)", SectionEdgesTest::lostBits);
    }

    private static void entries() {
        Check.sentence("The section is ENTRIES, one behind the other", SectionEdgesTest::oneBehindTheOther);
        Check.sentence("U4, how many bytes follow; then U4 id.", SectionEdgesTest::lengthAndId);
        Check.sentence("With id -1 it is a COMMON entry: U1 1", SectionEdgesTest::commonsFirstNumber);
        Check.sentence("ULEB the CODE factor, SLEB the DATA factor", SectionEdgesTest::factors);
        Check.sentence("ULEB the RETURN register (0 .. 7)", SectionEdgesTest::returnRegister);
        Check.sentence("id is where its common entry begins in the section (ahead of it)",
            SectionEdgesTest::idOfACommonEntryAhead);
        Check.sentence("U4 FIRST, U4 RANGE (neither below 0)", SectionEdgesTest::firstAndRange);
        Check.sentence("Instructions fill an entry just up to its end.", SectionEdgesTest::justUpToTheEnd);
        Check.sentence("There are at most 16 entries.", SectionEdgesTest::sixteenEntries);
    }

    private static void instructions() {
        Check.sentence("(Registers are ULEB 0 .. 7", SectionEdgesTest::registersOfInstructions);
        Check.sentence("at most four rows are remembered", SectionEdgesTest::fourRows);
        Check.sentence("a common entry has none of 1 to 4, 6, 10, 11 and of h 1 and 3.)",
            SectionEdgesTest::notInCommonEntries);
    }

    private static void faults() {
        Check.sentence("its FAULT is the first place (going through it entry by entry, byte by byte) at which"
            + " something is not as it must be", SectionEdgesTest::firstOfSeveral);
        Check.sentence("the place where the entry begins (its length beyond the section",
            SectionEdgesTest::lengthBeyondTheSection);
        Check.sentence("or below 4", SectionEdgesTest::lengthBelowFour);
        Check.sentence("a seventeenth)", SectionEdgesTest::seventeenth);
        Check.sentence("its id (no such common entry)", SectionEdgesTest::noSuchCommonEntry);
        Check.sentence("the number that is wrong", SectionEdgesTest::wrongNumbers);
        Check.sentence("the first byte of an instruction that is not there", SectionEdgesTest::notThere);
        Check.sentence("may not be there", SectionEdgesTest::mayNotBeThere);
        Check.sentence("goes beyond its entry", SectionEdgesTest::beyondItsEntry);
        Check.sentence("names a register that isn't there", SectionEdgesTest::noSuchRegister);
        Check.sentence("remembers a fifth row", SectionEdgesTest::fifthRow);
        Check.sentence("or takes back none.", SectionEdgesTest::takesBackNone);
    }

    private static byte[] frameOf(int... instructions) {
        return Code.frame(0, 0, 9, instructions);
    }

    private static byte[] commonOf(int... behindId) {
        return Code.entry(Code.join(Code.u4(-1), Code.of(behindId)));
    }

    /** The last instruction of a section of 512 bytes has the very last byte. */
    private static void fullSection() {
        byte[] instructions = new byte[512 - INSIDE];
        instructions[instructions.length - 2] = 7;
        instructions[instructions.length - 1] = 5;
        FrameUnwinder x = Code.load(COMMON, Code.frame(0, 0, 9, instructions));
        Check.same("fault() of 512 bytes", x.fault(), -1);
        Check.same("entries() of 512 bytes", x.entries(), 2);
        Check.same("row(0, 5, 0) by the last byte", x.row(0, 5, 0), 0);
        Check.refused("feed() behind 512 bytes", UnsupportedOperationException.class, () -> x.feed(0));
        x.spoil(511, 8);
        Check.same("fault() with the last byte spoilt", x.fault(), 510);
        x.spoil(510, 63);
        Check.same("fault() with the last two spoilt", x.fault(), 510);
        x.spoil(510, 0);
        x.spoil(511, 62);
        Check.same("fault() at the last byte", x.fault(), 511);
    }

    private static void withoutSign() {
        Expect.gives(0, 8, 0);
        Expect.gives(127, 8, 127);
        Expect.gives(128, 8, 128);
        Expect.gives(255, 8, 255);
        Expect.gives(32767, 10, 255, 127);
        Expect.gives(32768, 10, 0, 128);
        Expect.gives(65535, 10, 255, 255);
        FrameUnwinder x = Code.load(COMMON, Code.frame(0, 0, 70000, 2, 255, 7, 0, 3, 255, 255, 7, 1));
        Check.same("row(254, 0, 0)", x.row(254, 0, 0), 1);
        Check.same("row(255, 0, 0)", x.row(255, 0, 0), 0);
        Check.same("row(65789, 1, 0)", x.row(65789, 1, 0), 1);
        Check.same("row(65790, 1, 0)", x.row(65790, 1, 0), 0);
    }

    private static void lowestFirst() {
        Expect.gives(0x0201, 10, 1, 2);
        Expect.gives(0x0201, 11, 1, 2);
        Expect.gives(0x04030201, 13, 1, 2, 3, 4);
        Expect.gives(0x04030201, 3, 1, 2, 3, 4);
        FrameUnwinder x = Code.load(COMMON, Code.frame(0, 0x04030201, 0x0100));
        Check.same("find(0x04030200)", x.find(0x04030200), -1);
        Check.same("find(0x04030201)", x.find(0x04030201), 1);
        Check.same("find(0x04030300)", x.find(0x04030300), 1);
        Check.same("find(0x04030301)", x.find(0x04030301), -1);
    }

    private static void fourBytesAsAnInt() {
        Expect.gives(MAX, 13, 255, 255, 255, 127);
        Expect.gives(MIN, 13, 0, 0, 0, 128);
        Expect.gives(-1, 13, 255, 255, 255, 255);
        Expect.gives(MIN, 3, 0, 0, 0, 128);
        Expect.gives(-1, 3, 255, 255, 255, 255);
    }

    private static void withSign() {
        Expect.gives(127, 9, 127);
        Expect.gives(-128, 9, 128);
        Expect.gives(-1, 9, 255);
        Expect.gives(32767, 11, 255, 127);
        Expect.gives(-32768, 11, 0, 128);
        Expect.gives(-1, 11, 255, 255);
        Expect.gives(255, 11, 255, 0);
    }

    private static void ulebs() {
        Expect.gives(0, 16, 0);
        Expect.gives(64, 16, 64);
        Expect.gives(127, 16, 127);
        Expect.gives(128, 16, 128, 1);
        Expect.gives(16383, 16, 255, 127);
        Expect.gives(16384, 16, 128, 128, 1);
        Expect.gives(1, 16, 129, 0);
        Expect.gives(1, 16, 129, 128, 128, 128, 0);
        Expect.gives(MAX, 16, 255, 255, 255, 255, 7);
        Expect.fails(BYTES, 16, 128);
        Expect.fails(BYTES, 16, 255, 255, 255, 255);
    }

    private static void slebs() {
        Expect.gives(0, 17, 0);
        Expect.gives(63, 17, 63);
        Expect.gives(-64, 17, 64);
        Expect.gives(-1, 17, 127);
        Expect.gives(64, 17, 192, 0);
        Expect.gives(-65, 17, 191, 127);
        Expect.gives(8191, 17, 255, 63);
        Expect.gives(-8192, 17, 128, 64);
        Expect.gives(-(1 << 27), 17, 128, 128, 128, 64);
        Expect.gives((1 << 27) - 1, 17, 255, 255, 255, 63);
        Expect.gives(MIN, 17, 128, 128, 128, 128, 120);
        Expect.gives(MAX, 17, 255, 255, 255, 255, 7);
        Expect.fails(BYTES, 17, 192);
    }

    private static void fiveBytes() {
        Expect.gives(5, 16, 133, 128, 128, 128, 0);
        // 18 would work as an operation, so that only the number's length can fail.
        Expect.fails(BYTES, 16, 133, 128, 128, 128, 128, 18);
        Expect.gives(-5, 17, 251, 255, 255, 255, 127);
        Expect.fails(BYTES, 17, 251, 255, 255, 255, 255, 18);
        Expect.sound("a code factor of five bytes", 1, commonOf(1, 129, 128, 128, 128, 0, 1, 6));
        Expect.fault("a code factor of six bytes", 9, commonOf(1, 129, 128, 128, 128, 128, 0, 1, 6));
        Expect.sound("a data factor of five bytes", 1, commonOf(1, 1, 255, 255, 255, 255, 127, 6));
        Expect.fault("a data factor of six bytes", 10, commonOf(1, 1, 255, 255, 255, 255, 255, 127, 6));
        Expect.sound("a return register of five bytes", 1, commonOf(1, 1, 1, 134, 128, 128, 128, 0));
        Expect.fault("a return register of six bytes", 11, commonOf(1, 1, 1, 134, 128, 128, 128, 128, 0));
        Expect.sound("a register of five bytes", 2, COMMON, frameOf(8, 129, 128, 128, 128, 0));
        Expect.fault("a register of six bytes", INSIDE, COMMON, frameOf(8, 129, 128, 128, 128, 128, 0));
        Expect.sound("CFA's number of five bytes", 2, COMMON, frameOf(19, 255, 255, 255, 255, 127));
        Expect.fault("CFA's number of six bytes", INSIDE, COMMON, frameOf(19, 255, 255, 255, 255, 255, 127));
    }

    private static void lostBits() {
        Expect.gives(-1, 16, 255, 255, 255, 255, 15);
        Expect.gives(-1, 16, 255, 255, 255, 255, 127);
        Expect.gives(0, 16, 128, 128, 128, 128, 112);
        Expect.gives(0, 17, 128, 128, 128, 128, 48);
        Expect.gives((1 << 28) - 1, 17, 255, 255, 255, 255, 64);
        Expect.gives(MIN, 17, 128, 128, 128, 128, 8);
        Expect.sound("a return register with bits above 32", 1, commonOf(1, 1, 1, 135, 128, 128, 128, 112));
        Expect.sound("a register with bits above 32", 2, COMMON, frameOf(8, 135, 128, 128, 128, 16));
        Expect.fault("a register with the bit 31", INSIDE, COMMON, frameOf(8, 135, 128, 128, 128, 8));
    }

    private static void oneBehindTheOther() {
        Expect.sound("no entry", 0);
        Expect.sound("one entry", 1, COMMON);
        Expect.sound("two entries", 2, COMMON, FRAME);
        Expect.sound("three entries", 3, COMMON, FRAME, COMMON);
        Expect.fault("a byte behind the last entry", NEXT, COMMON, new byte[1]);
        Expect.fault("three bytes behind the last entry", INSIDE, COMMON, FRAME, new byte[3]);
    }

    private static void lengthAndId() {
        Expect.fault("an id alone is one entry", 8, Code.u4(4), Code.u4(-1));
        Expect.fault("a length that ends within the id", 0, Code.u4(3), Code.u4(-1));
        Expect.fault("a length without its id", 0, Code.u4(4));
        Expect.fault("a frame entry's id alone", NEXT + 8, COMMON, Code.u4(4), Code.u4(0));
        Expect.sound("the shortest common entry", 1, Code.u4(8), Code.u4(-1), Code.of(1, 1, 1, 1));
        Expect.sound("the shortest frame entry", 2, COMMON, Code.u4(12), Code.u4(0), new byte[8]);
    }

    private static void commonsFirstNumber() {
        Expect.sound("1", 1, commonOf(1, 1, 1, 1));
        for (int b : new int[] {0, 2, 3, 128, 129, 255}) {
            Expect.fault(b + " for 1", 8, commonOf(b, 1, 1, 1, 0));
        }
        Expect.fault("nothing for 1", 8, commonOf());
    }

    private static void factors() {
        byte[] common = commonOf(1, 127, 127, 6);
        FrameUnwinder x = Code.load(common, Code.frame(0, 0, 200, 0x80, 1, 0x41, 7, 1));
        Expect.rule(x, 126, 1, 1, 0, 0);
        Expect.rule(x, 127, 1, 0, 0, 0);
        Expect.rule(x, 0, 0, 2, -1, 0);
        FrameUnwinder none = Code.load(commonOf(1, 0, 0, 6), Code.frame(0, 0, 9, 0x80, 9, 0x7F, 7, 1));
        Expect.rule(none, 0, 0, 2, 0, 0);
        Expect.rule(none, 0, 1, 0, 0, 0);
    }

    private static void returnRegister() {
        for (int r = 0; r < 8; r++) {
            Expect.sound("return register " + r, 1, commonOf(1, 1, 1, r));
        }
        for (int r : new int[] {8, 9, 63, 127}) {
            Expect.fault("return register " + r, 11, commonOf(1, 1, 1, r));
        }
        Expect.fault("return register -1", 11, commonOf(1, 1, 1, 255, 255, 255, 255, 15));
    }

    private static void idOfACommonEntryAhead() {
        Expect.sound("the entry just ahead", 2, COMMON, FRAME);
        Expect.sound("an entry far ahead", 4, COMMON, FRAME, COMMON, FRAME);
        Expect.sound("the second common entry", 3, COMMON, COMMON, Code.frame(NEXT, 0, 9));
        Expect.fault("the entry itself", NEXT + 4, COMMON, Code.frame(NEXT, 0, 9));
        Expect.fault("the entry behind it", NEXT + 4, COMMON, Code.frame(INSIDE, 0, 9), COMMON);
        Expect.fault("a frame entry ahead", INSIDE + 4, COMMON, FRAME, Code.frame(NEXT, 0, 9));
        Expect.fault("a place within an entry", NEXT + 4, COMMON, Code.frame(1, 0, 9));
        Expect.fault("the end of the section", NEXT + 4, COMMON, Code.frame(INSIDE, 0, 9));
        for (int id : new int[] {-2, MIN, MAX, 512}) {
            Expect.fault("id " + id, NEXT + 4, COMMON, Code.frame(id, 0, 9));
        }
    }

    private static void firstAndRange() {
        Expect.sound("0 and 0", 2, COMMON, Code.frame(0, 0, 0));
        Expect.sound("the greatest ones", 2, COMMON, Code.frame(0, MAX, MAX));
        for (int below : new int[] {-1, MIN}) {
            Expect.fault("first " + below, NEXT + 8, COMMON, Code.frame(0, below, 0));
            Expect.fault("range " + below, NEXT + 12, COMMON, Code.frame(0, 0, below));
            Expect.fault("first and range " + below, NEXT + 8, COMMON, Code.frame(0, below, below));
        }
    }

    private static void justUpToTheEnd() {
        Expect.sound("no instructions", 2, COMMON, frameOf());
        Expect.sound("an instruction up to the end", 3, COMMON, frameOf(12, 1, 1), COMMON);
        Expect.fault("an instruction that is cut", INSIDE, COMMON, frameOf(12, 1), COMMON);
        Expect.fault("a byte more, that is none", INSIDE + 3, COMMON, frameOf(12, 1, 1, 12), COMMON);
        Expect.sound("expression bytes up to the end", 3, COMMON, frameOf(15, 2, 255, 255), COMMON);
        Expect.fault("expression bytes beyond the end", INSIDE, COMMON, frameOf(15, 3, 255, 255), COMMON);
        Expect.fault("a cut instruction of a common entry", 12, Code.common(1, -4, 6, 14), COMMON);
    }

    private static byte[] many(int count) {
        byte[] all = COMMON;
        for (int k = 1; k < count; k++) {
            all = Code.join(all, k % 2 == 0 ? COMMON : FRAME);
        }
        return all;
    }

    private static void sixteenEntries() {
        Expect.sound("fifteen entries", 15, many(15));
        Expect.sound("sixteen entries", 16, many(16));
        Expect.fault("seventeen entries", many(16).length, many(17));
        FrameUnwinder x = Code.load(many(15), Code.frame(0, 100, 1));
        Check.same("find() of the sixteenth entry", x.find(100), 15);
    }

    private static void registersOfInstructions() {
        int[] operations = {5, 6, 7, 8, 9, 12, 13, 16, 17, 18, 20, 21, 22};
        for (int operation : operations) {
            Expect.sound("register 0 in " + operation, 2, COMMON, frameOf(operation, 0, 0, 0));
            Expect.sound("register 7 in " + operation, 2, COMMON, frameOf(operation, 7, 0, 0));
            for (int r : new int[] {8, 127}) {
                Expect.fault("register " + r + " in " + operation, INSIDE, COMMON, frameOf(operation, r, 0, 0));
            }
            Expect.fault("register 128 in " + operation, INSIDE, COMMON, frameOf(operation, 128, 1, 0, 0));
        }
        Expect.sound("second register 7", 2, COMMON, frameOf(9, 0, 7));
        Expect.fault("second register 8", INSIDE, COMMON, frameOf(9, 0, 8));
        Expect.sound("register 7 with h 2 and 3", 2, COMMON, frameOf(0x87, 0, 0xC7));
        Expect.fault("register 8 with h 2", INSIDE, COMMON, frameOf(0x88, 0));
        Expect.fault("register 8 with h 3", INSIDE, COMMON, frameOf(0xC8));
    }

    private static void fourRows() {
        Expect.sound("four rows", 2, COMMON, frameOf(10, 10, 10, 10));
        Expect.fault("five rows", INSIDE + 4, COMMON, frameOf(10, 10, 10, 10, 10));
        Expect.sound("four rows again", 2, COMMON, frameOf(10, 10, 10, 10, 11, 10, 11, 11, 11, 11, 10));
        Expect.fault("five rows after one came back", INSIDE + 6, COMMON, frameOf(10, 10, 10, 10, 11, 10, 10));
        Expect.sound("four rows in each of two entries", 3, COMMON, frameOf(10, 10, 10, 10), frameOf(10, 10, 10, 10));
    }

    private static void notInCommonEntries() {
        for (int b : new int[] {1, 2, 3, 4, 6, 10, 11, 0x40, 0x7F, 0xC0, 0xC7}) {
            Expect.fault(b + " in a common entry", 12, Code.common(1, -4, 6, b, 0, 0, 0, 0));
            int[] inFrame = {10, b, 0, 0, 0, 0};
            Expect.sound(b + " in a frame entry", 2, COMMON, frameOf(inFrame));
        }
        for (int b : new int[] {0, 5, 7, 8, 9, 12, 13, 14, 15, 16, 17, 18, 19, 20, 21, 22, 0x80, 0x87}) {
            Expect.sound(b + " in a common entry", 1, Code.common(1, -4, 6, b, 0, 0, 0, 0));
        }
    }

    /** One place more is spoilt each time, from the last one of the section up to the first. */
    private static void firstOfSeveral() {
        FrameUnwinder x = Code.load(COMMON, frameOf(0, 0), frameOf(0, 0), Code.of(9));
        Check.same("fault() with a byte behind the last entry", x.fault(), 48);
        int[][] spoilt = {{47, 63, 47}, {46, 62, 46}, {45, 255, 42}, {41, 255, 38}, {36, 255, 34}, {30, 99, 30},
            {29, 61, 29}, {28, 60, 28}, {27, 255, 24}, {23, 255, 20}, {16, 1, 16}, {12, 200, 12}, {11, 8, 11},
            {8, 0, 8}, {0, 99, 0}};
        for (int[] one : spoilt) {
            x.spoil(one[0], one[1]);
            Check.same("fault() with byte " + one[0] + " spoilt, too", x.fault(), one[2]);
        }
    }

    private static void lengthBeyondTheSection() {
        Expect.fault("one byte too many", 0, Code.u4(9), Arrays.copyOfRange(COMMON, 4, 12));
        Expect.fault("one byte too many behind an entry", NEXT, COMMON, Code.u4(13), new byte[12]);
        Expect.fault("the greatest length", 0, Code.u4(MAX), Arrays.copyOfRange(COMMON, 4, 12));
        for (int size = 1; size < 4; size++) {
            Expect.fault(size + " bytes of a length", 0, Arrays.copyOf(COMMON, size));
            Expect.fault(size + " bytes of a length behind an entry", NEXT, COMMON, Arrays.copyOf(COMMON, size));
        }
        for (int size = 4; size < NEXT; size++) {
            Expect.fault("the first " + size + " bytes of an entry", 0, Arrays.copyOf(COMMON, size));
        }
    }

    private static void lengthBelowFour() {
        for (int length : new int[] {0, 1, 2, 3, -1, -4, MIN}) {
            Expect.fault("a length of " + length, 0, Code.u4(length), Arrays.copyOfRange(COMMON, 4, 12));
            Expect.fault("a second length of " + length, NEXT, COMMON, Code.u4(length), Code.u4(-1));
        }
        Expect.fault("a length of 4", 8, Code.u4(4), Code.u4(-1));
    }

    private static void seventeenth() {
        byte[] sixteen = many(16);
        Expect.fault("a good seventeenth", sixteen.length, sixteen, COMMON);
        Expect.fault("a bad seventeenth", sixteen.length, sixteen, commonOf(2, 1, 1, 1));
        Expect.fault("one byte behind the sixteenth", sixteen.length, sixteen, new byte[1]);
        Expect.fault("a good seventeenth and an eighteenth", sixteen.length, sixteen, COMMON, COMMON);
        sixteen[8] = 2;
        Expect.fault("a seventeenth behind a bad first", 8, sixteen, COMMON);
    }

    private static void noSuchCommonEntry() {
        Expect.fault("no entry ahead", 4, FRAME);
        Expect.fault("no entry at 1", NEXT + 4, COMMON, Code.frame(1, 0, 9));
        Expect.fault("no entry at 1 and first below 0", NEXT + 4, COMMON, Code.frame(1, -1, 9));
        Expect.fault("no entry at 1 and nothing else", NEXT + 4, COMMON, Code.u4(4), Code.u4(1));
    }

    private static void wrongNumbers() {
        Expect.fault("2 for 1", 8, commonOf(2, 128));
        Expect.fault("no code factor", 9, commonOf(1));
        Expect.fault("a code factor that is cut", 9, commonOf(1, 128, 128));
        Expect.fault("no data factor", 11, commonOf(1, 129, 0));
        Expect.fault("a data factor that is cut", 11, commonOf(1, 129, 0, 255));
        Expect.fault("no return register", 13, commonOf(1, 129, 0, 129, 0));
        Expect.fault("a return register that is cut", 13, commonOf(1, 129, 0, 129, 0, 128));
        Expect.fault("return register 8", 13, commonOf(1, 129, 0, 129, 0, 136, 0));
        for (int size = 0; size < 8; size++) {
            Expect.fault(size + " bytes of first and range", NEXT + (size < 4 ? 8 : 12), COMMON,
                Code.entry(Code.join(Code.u4(0), new byte[size])), COMMON);
        }
        Expect.fault("a second entry's first below 0", INSIDE + 8, COMMON, FRAME, Code.frame(0, -1, 0));
    }

    private static void notThere() {
        for (int b = 0; b < 64; b++) {
            byte[] whole = frameOf(10, b, 0, 0, 0, 0);
            if (b <= 22) {
                Expect.sound("instruction " + b, 2, COMMON, whole);
            } else {
                Expect.fault("instruction " + b, INSIDE + 1, COMMON, whole);
                Expect.fault("instruction " + b + " in a common entry", 13, Code.common(1, -4, 6, 0, b));
            }
        }
    }

    private static void mayNotBeThere() {
        Expect.fault("a place in a common entry", 14, Code.common(1, -4, 6, 7, 1, 1, 0, 0, 0, 0));
        Expect.fault("h 1 in a common entry", 15, Code.common(1, -4, 6, 12, 7, 4, 0x41, 0));
        Expect.fault("h 3 in a common entry", 12, Code.common(1, -4, 6, 0xC1));
        Expect.fault("a row remembered in the second common entry", NEXT + 12, COMMON, Code.common(1, -4, 6, 10));
    }

    private static void beyondItsEntry() {
        int[][] whole = {{1, 0, 0, 0, 0}, {2, 0}, {3, 0, 0}, {4, 0, 0, 0, 0}, {5, 1, 1}, {6, 1}, {7, 1}, {8, 1},
            {9, 1, 1}, {12, 1, 1}, {13, 1}, {14, 1}, {15, 1, 0}, {16, 1, 1, 0}, {17, 1, 1}, {18, 1, 1}, {19, 1},
            {20, 1, 1}, {21, 1, 1}, {22, 1, 1, 0}, {0x81, 1}, {14, 128, 0}, {19, 128, 0}, {13, 129, 0}};
        for (int[] instruction : whole) {
            for (int size = 1; size < instruction.length; size++) {
                int[] part = new int[size + 1];
                System.arraycopy(instruction, 0, part, 1, size);
                String what = size + " bytes of instruction " + instruction[0];
                Expect.fault(what + " behind another one", INSIDE + 1, COMMON, frameOf(part), COMMON);
                Expect.fault(what + " at the section's end", INSIDE + 1, COMMON, frameOf(part));
            }
        }
        Expect.fault("an expression of 2^31 bytes", INSIDE, COMMON, frameOf(15, 128, 128, 128, 128, 8), COMMON);
        Expect.fault("an expression of 2^32 - 1 bytes", INSIDE, COMMON,
            frameOf(16, 1, 255, 255, 255, 255, 15), COMMON);
    }

    private static void noSuchRegister() {
        Expect.fault("register 8 behind another instruction", INSIDE + 1, COMMON, frameOf(0, 7, 8));
        Expect.fault("a second register 8", INSIDE + 2, COMMON, frameOf(0, 0, 9, 7, 8));
        Expect.fault("register -1", INSIDE, COMMON, frameOf(7, 255, 255, 255, 255, 15));
        Expect.fault("a second register -1", INSIDE, COMMON, frameOf(9, 0, 255, 255, 255, 255, 15));
        Expect.fault("register 8 with h 2", INSIDE + 1, COMMON, frameOf(0, 0x88, 1));
        Expect.fault("register 63 with h 2", INSIDE + 1, COMMON, frameOf(0, 0xBF, 1));
        Expect.fault("register 8 with h 3", INSIDE + 1, COMMON, frameOf(0, 0xC8));
        Expect.fault("register 63 with h 3", INSIDE + 1, COMMON, frameOf(0, 0xFF));
        Expect.fault("register 8 in a common entry", 13, Code.common(1, -4, 6, 0, 12, 8, 1));
    }

    private static void fifthRow() {
        Expect.fault("a fifth row", INSIDE + 8, COMMON, frameOf(10, 7, 1, 10, 10, 7, 2, 10, 10));
        Expect.fault("a fifth row beyond every place", INSIDE + 9, COMMON,
            frameOf(1, 255, 255, 255, 255, 10, 10, 10, 10, 10));
    }

    private static void takesBackNone() {
        Expect.fault("none at all", INSIDE + 1, COMMON, frameOf(0, 11));
        Expect.fault("none any more", INSIDE + 4, COMMON, frameOf(10, 10, 11, 11, 11));
        Expect.fault("none in this entry", INSIDE + 17, COMMON, frameOf(10), frameOf(11));
        Expect.fault("none, beyond every place", INSIDE + 5, COMMON, frameOf(1, 255, 255, 255, 255, 11));
    }
}
