import java.util.NoSuchElementException;

/**
 * Each edge that the document names of the plain calls, promises 1 to 6, 9 to 11 and 15, and of calls
 * that throw.
 */
public final class CallEdgesTest {
    private static final int MIN = Integer.MIN_VALUE;
    private static final int MAX = Integer.MAX_VALUE;
    private static final int BASE = 10;

    private CallEdgesTest() {
    }

    public static void main(String[] args) {
        newObject();
        bytes();
        soundness();
        program();
        get();
        anyCall();
        Check.finish();
    }

    private static void newObject() {
        Check.sentence("NONE = -1", CallEdgesTest::none);
        Check.sentence("An empty section", CallEdgesTest::emptySection);
        Check.sentence("memory and registers 0, all known", CallEdgesTest::allZero);
        Check.sentence("a frame at pc 0.", CallEdgesTest::frameAtZero);
    }

    private static void bytes() {
        Check.sentence("Four more bytes, the lowest of the number first", CallEdgesTest::fourBytes);
        Check.sentence("feed: how many there are.", CallEdgesTest::howMany);
        Check.sentence("UnsupportedOperationException if there would be more than 512.", CallEdgesTest::moreThan512);
        Check.sentence("The section has n bytes.", CallEdgesTest::ended);
        Check.sentence("IllegalArgumentException if n is below 0 or above how many it has.",
            CallEdgesTest::endsThereAreNot);
        Check.sentence("Byte k becomes another one (its lowest eight bits)", CallEdgesTest::lowestEightBits);
        Check.sentence("spoil: what it was.", CallEdgesTest::whatItWas);
        Check.sentence("spoil: IndexOutOfBoundsException if there is none such.", CallEdgesTest::noSuchByte);
    }

    private static void soundness() {
        Check.sentence("Whether the section is sound: NONE; otherwise its fault.", CallEdgesTest::faultOrNone);
        Check.sentence("How many entries the section has", CallEdgesTest::howManyEntries);
        Check.sentence("NONE if it isn't sound.", CallEdgesTest::noEntries);
    }

    private static void program() {
        Check.sentence("A program has REGISTERS 0 .. 7, each known or not", CallEdgesTest::eightRegisters);
        Check.sentence("a MEMORY of 256 words at the addresses 0, 4, .. 1020", CallEdgesTest::allWords);
        Check.sentence("other addresses can't be read.", CallEdgesTest::otherAddresses);
        Check.sentence("A word of memory becomes v.", CallEdgesTest::words);
        Check.sentence("IndexOutOfBoundsException if there is no such address.", CallEdgesTest::noSuchAddress);
        Check.sentence("A register becomes v, and known.", CallEdgesTest::registers);
        Check.sentence("register: IndexOutOfBoundsException if there is none such.", CallEdgesTest::noSuchRegister);
        Check.sentence("The frame has another pc, and is the first one", CallEdgesTest::firstFrame);
        Check.sentence("(its registers stay).", CallEdgesTest::registersStay);
    }

    private static void get() {
        Check.sentence("Register r of the frame (its value, 0 if it isn't known)", CallEdgesTest::valueOrZero);
        Check.sentence("8 pc", CallEdgesTest::pc);
        Check.sentence("9 the registers that are known, a bit each", CallEdgesTest::knownBits);
        Check.sentence("10 how many frames were unwound since start().", CallEdgesTest::unwoundFrames);
        Check.sentence("IndexOutOfBoundsException for others.", CallEdgesTest::otherRegisters);
    }

    private static void anyCall() {
        Check.sentence("A call that throws changes nothing.", CallEdgesTest::throwsChangeNothing);
        Check.sentence("An object is used for at most 512 calls after it has been made", CallEdgesTest::manyCalls);
    }

    /** A number of all words from one address up to, but without, another one; the section is lost. */
    private static int words(FrameUnwinder x, int from, int to) {
        byte[] code = new Code().u1(48).u1(10).number(2, from)
            .u1(22).u1(79).u1(30).u1(20).u1(6).u1(34).u1(22).u1(35).u1(4)
            .u1(18).u1(10).number(2, to).u1(28).u1(40).number(2, -17).u1(19).bytes();
        x.end(0);
        Code.feed(x, code);
        Check.same("reckon() of the words from " + from, x.reckon(0, code.length, 2000), 0);
        return x.value();
    }

    /** All that is in an object with at most 100 bytes; they are lost. */
    private static String picture(FrameUnwinder x) {
        StringBuilder text = new StringBuilder();
        for (int r = 0; r <= 10; r++) {
            text.append(x.get(r)).append(' ');
        }
        text.append(x.value()).append(' ').append(x.fault());
        int size = 0;
        while (size < 100 && hasByte(x, size)) {
            text.append(' ').append(x.spoil(size, 0));
            size++;
        }
        return text.append(" of ").append(size).append(", ").append(words(x, 0, 512)).append(", ")
            .append(words(x, 512, 1024)).toString();
    }

    private static boolean hasByte(FrameUnwinder x, int k) {
        try {
            x.spoil(k, x.spoil(k, 0));
            return true;
        } catch (IndexOutOfBoundsException e) {
            return false;
        }
    }

    private static void none() {
        Check.same("NONE", FrameUnwinder.NONE, -1);
    }

    private static void emptySection() {
        FrameUnwinder x = new FrameUnwinder();
        Check.same("fault()", x.fault(), -1);
        Check.same("entries()", x.entries(), 0);
        Check.same("find(0)", x.find(0), -1);
        Check.refused("spoil(0, 0)", IndexOutOfBoundsException.class, () -> x.spoil(0, 0));
        Check.refused("end(1)", IllegalArgumentException.class, () -> x.end(1));
        Check.refused("reckon(0, 1, 9)", IllegalArgumentException.class, () -> x.reckon(0, 1, 9));
        x.end(0);
        Check.same("feed(0)", x.feed(0), 4);
    }

    private static void allZero() {
        FrameUnwinder x = new FrameUnwinder();
        Expect.frame("of a new object", x, 0, 0, 0, 0, 0, 0, 0, 0);
        Check.same("get(9)", x.get(9), 255);
        Check.same("the words up to 508", words(x, 0, 512), 0);
        Check.same("the words from 512 on", words(x, 512, 1024), 0);
        Code.feed(emptied(x), Code.of(112, 0, 113, 0, 34, 114, 0, 34, 115, 0, 34, 116, 0, 34, 117, 0, 34, 118, 0, 34,
            119, 0, 34));
        Check.same("reckon() of all registers", x.reckon(0, 23, 99), 0);
        Check.same("value()", x.value(), 0);
    }

    private static FrameUnwinder emptied(FrameUnwinder x) {
        x.end(0);
        return x;
    }

    private static void frameAtZero() {
        FrameUnwinder x = new FrameUnwinder();
        Check.same("get(8)", x.get(8), 0);
        Check.same("get(10)", x.get(10), 0);
        // It is a first frame: its place is 0, not -1.
        FrameUnwinder y = Code.load(Code.common(1, 1, 6, 12, 7, 3, 8, 6), Code.frame(0, 0, 1));
        Check.same("unwind()", y.unwind(0), 0);
        Check.same("get(7)", y.get(7), 3);
    }

    private static void fourBytes() {
        FrameUnwinder x = new FrameUnwinder();
        x.feed(0x84838281);
        x.feed(MIN);
        x.feed(-2);
        int[] due = {0x81, 0x82, 0x83, 0x84, 0, 0, 0, 0x80, 0xFE, 0xFF, 0xFF, 0xFF};
        for (int k = 0; k < due.length; k++) {
            Check.same("spoil(" + k + ", 0)", x.spoil(k, 0), due[k]);
        }
    }

    private static void howMany() {
        FrameUnwinder x = new FrameUnwinder();
        for (int n = 4; n <= 512; n += 4) {
            Check.same("feed()", x.feed(n), n);
        }
        x.end(3);
        Check.same("feed() behind 3", x.feed(0), 7);
        x.end(0);
        Check.same("feed() behind 0", x.feed(0), 4);
    }

    private static FrameUnwinder full() {
        FrameUnwinder x = new FrameUnwinder();
        for (int n = 0; n < 128; n++) {
            x.feed(-1);
        }
        return x;
    }

    private static void moreThan512() {
        FrameUnwinder x = full();
        Check.refused("feed() behind 512", UnsupportedOperationException.class, () -> x.feed(0));
        Check.same("spoil(511, 0)", x.spoil(511, 0), 255);
        for (int n = 511; n > 508; n--) {
            int size = n;
            x.end(n);
            Check.refused("feed() behind " + n, UnsupportedOperationException.class, () -> x.feed(0));
            Check.same("spoil() of the last byte", x.spoil(n - 1, 1), 255);
            Check.refused("end() beyond " + n, IllegalArgumentException.class, () -> x.end(size + 1));
        }
        x.end(508);
        Check.same("feed() behind 508", x.feed(5), 512);
        Check.same("spoil(508, 0)", x.spoil(508, 0), 5);
    }

    private static void ended() {
        FrameUnwinder x = Code.load(Code.common(1, -4, 6), Code.frame(0, 0, 9));
        x.end(28);
        Check.same("entries() of all", x.entries(), 2);
        x.end(12);
        Check.same("entries() of 12 bytes", x.entries(), 1);
        Check.refused("spoil(12, 0)", IndexOutOfBoundsException.class, () -> x.spoil(12, 0));
        Check.refused("reckon(12, 13, 9)", IllegalArgumentException.class, () -> x.reckon(12, 13, 9));
        Check.same("feed() behind 12", x.feed(12), 16);
        Check.same("spoil(12, 0)", x.spoil(12, 0), 12);
        x.end(0);
        Check.same("entries() of nothing", x.entries(), 0);
        Check.same("feed() behind 0", x.feed(7), 4);
        Check.same("spoil(0, 0)", x.spoil(0, 0), 7);
    }

    private static void endsThereAreNot() {
        FrameUnwinder x = Code.load(new byte[8]);
        for (int n : new int[] {-1, 9, 512, MIN, MAX}) {
            Check.refused("end(" + n + ")", IllegalArgumentException.class, () -> x.end(n));
        }
        x.end(8);
        x.end(7);
        Check.refused("end(8) of 7", IllegalArgumentException.class, () -> x.end(8));
        x.end(7);
        x.end(0);
        Check.refused("end(1) of 0", IllegalArgumentException.class, () -> x.end(1));
        Check.refused("end(-1) of 0", IllegalArgumentException.class, () -> x.end(-1));
        FrameUnwinder most = full();
        Check.refused("end(513)", IllegalArgumentException.class, () -> most.end(513));
        most.end(512);
        Check.same("spoil(511, 0)", most.spoil(511, 0), 255);
    }

    private static void lowestEightBits() {
        FrameUnwinder x = Code.load(new byte[4]);
        int[][] due = {{255, 255}, {256, 0}, {257, 1}, {-1, 255}, {-256, 0}, {MIN, 0}, {MAX, 255}, {0x1280, 0x80}};
        for (int[] pair : due) {
            x.spoil(2, pair[0]);
            Check.same("the byte after spoil(2, " + pair[0] + ")", x.spoil(2, 9), pair[1]);
        }
        Check.same("spoil(1, 0)", x.spoil(1, 0), 0);
        Check.same("spoil(3, 0)", x.spoil(3, 0), 0);
    }

    private static void whatItWas() {
        FrameUnwinder x = Code.load(Code.of(0, 127, 128, 255));
        int[] due = {0, 127, 128, 255};
        for (int k = 0; k < due.length; k++) {
            Check.same("spoil(" + k + ", 1)", x.spoil(k, 1), due[k]);
            Check.same("spoil(" + k + ", 2)", x.spoil(k, 2), 1);
        }
    }

    private static void noSuchByte() {
        FrameUnwinder x = Code.load(new byte[5]);
        for (int k : new int[] {-1, 5, 6, 512, MIN, MAX}) {
            Check.refused("spoil(" + k + ", 1)", IndexOutOfBoundsException.class, () -> x.spoil(k, 1));
        }
        Check.same("spoil(4, 1)", x.spoil(4, 1), 0);
        Check.same("spoil(0, 1)", x.spoil(0, 1), 0);
        FrameUnwinder most = full();
        Check.refused("spoil(512, 1)", IndexOutOfBoundsException.class, () -> most.spoil(512, 1));
    }

    private static void faultOrNone() {
        FrameUnwinder x = Code.load(Code.common(1, -4, 6), Code.frame(0, 0, 9, 0));
        Check.same("fault()", x.fault(), -1);
        x.spoil(28, 63);
        Check.same("fault() of a bad instruction", x.fault(), 28);
        x.spoil(28, 0);
        Check.same("fault() of a good one", x.fault(), -1);
        x.end(28);
        Check.same("fault() of a cut entry", x.fault(), 12);
        x.end(12);
        Check.same("fault() of one entry", x.fault(), -1);
        x.end(11);
        Check.same("fault() of a cut first entry", x.fault(), 0);
        x.end(0);
        Check.same("fault() of nothing", x.fault(), -1);
    }

    private static void howManyEntries() {
        byte[] all = new byte[0];
        for (int n = 0; n <= 16; n++) {
            Check.same("entries()", Code.load(all).entries(), n);
            all = Code.join(all, n % 3 == 0 ? Code.common(1, 1, 6) : Code.frame(0, 0, 1));
        }
    }

    private static void noEntries() {
        FrameUnwinder x = Code.load(Code.common(1, -4, 6), Code.frame(0, 0, 9, 0));
        Check.same("entries()", x.entries(), 2);
        x.spoil(28, 63);
        Check.same("entries() with a bad instruction", x.entries(), -1);
        x.spoil(28, 0);
        Check.same("entries() without one", x.entries(), 2);
        Check.same("entries() of a byte", Code.load(new byte[1]).entries(), -1);
    }

    private static void eightRegisters() {
        FrameUnwinder x = losing();
        for (int r = 0; r < 8; r++) {
            x.register(r, 40 + r);
        }
        Expect.frame("of eight registers", x, 40, 41, 42, 43, 44, 45, 46, 47, 0, 255, 0);
        x.start(10);
        Check.same("unwind()", x.unwind(0), 0);
        Expect.frame("of six registers that are known", x, 0, 0, 42, 43, 44, 45, 46, 47, 46, 252, 1);
        Check.refused("register(8, 0)", IndexOutOfBoundsException.class, () -> x.register(8, 0));
        Check.refused("register(-1, 0)", IndexOutOfBoundsException.class, () -> x.register(-1, 0));
    }

    private static void allWords() {
        FrameUnwinder x = new FrameUnwinder();
        int low = 0;
        int high = 0;
        for (int address = 0; address < 512; address += 4) {
            x.word(address, 3 * address + 1);
            x.word(512 + address, 5 * address + 2);
            low = 31 * low + 3 * address + 1;
            high = 31 * high + 5 * address + 2;
        }
        Check.same("the words up to 508", words(x, 0, 512), low);
        Check.same("the words from 512 on", words(x, 512, 1024), high);
    }

    /** By an operation, by OFFSET and by EXPRESSION. */
    private static void otherAddresses() {
        byte[] common = Code.common(1, 1, 6, 12, 7, 0, 8, 6);
        FrameUnwinder x = Code.load(common, Code.frame(0, 0, 1, 5, 0, 0), Code.frame(0, 1, 1, 16, 0, 0),
            Code.of(119, 0, 6));
        int operation = common.length + 38;
        int[][] due = {{0, 0}, {4, 0}, {1016, 0}, {1020, 0}, {-4, 4}, {-1, 4}, {1, 4}, {2, 4}, {3, 4}, {1019, 4},
            {1021, 4}, {1022, 4}, {1023, 4}, {1024, 4}, {MIN, 4}, {MAX, 4}};
        for (int[] pair : due) {
            x.register(7, pair[0]);
            Check.same("reckon() of the word at " + pair[0], x.reckon(operation, operation + 3, 9), pair[1]);
        }
        x.end(operation);
        for (int[] pair : due) {
            for (int pc = 0; pc < 2; pc++) {
                x.start(pc);
                x.register(7, pair[0]);
                Check.same("unwind() at " + pc + " with the word at " + pair[0], x.unwind(0), pair[1]);
            }
        }
    }

    private static void words() {
        FrameUnwinder x = Code.load(Code.of(112, 0, 6));
        for (int address : new int[] {0, 4, 508, 512, 1016, 1020}) {
            x.word(address, 1);
            x.word(address, MIN + address);
            x.register(0, address);
            Check.same("reckon() of the word at " + address, x.reckon(0, 3, 9), 0);
            Check.same("value()", x.value(), MIN + address);
        }
        for (int address : new int[] {8, 504, 516, 1012}) {
            x.register(0, address);
            x.reckon(0, 3, 9);
            Check.same("the word at " + address + " beside them", x.value(), 0);
        }
    }

    private static void noSuchAddress() {
        FrameUnwinder x = new FrameUnwinder();
        int[] none = {-1, -2, -3, -4, 1, 2, 3, 1018, 1021, 1023, 1024, 1028, MIN, MIN + 4, MAX, MAX - 3};
        for (int address : none) {
            Check.refused("word(" + address + ", 1)", IndexOutOfBoundsException.class, () -> x.word(address, 1));
        }
        Check.same("the words up to 508", words(x, 0, 512), 0);
        Check.same("the words from 512 on", words(x, 512, 1024), 0);
        x.word(0, 1);
        x.word(1020, 1);
        Check.same("whether the first word is there", words(x, 0, 512) != 0 ? 1 : 0, 1);
        Check.same("the last word", words(x, 512, 1024), 1);
    }

    /** CFA is register 7; register 6 keeps the return address, 0 and 1 are lost. */
    private static FrameUnwinder losing() {
        return Code.load(Code.common(1, -4, 6, 12, 7, 0, 8, 6, 7, 0, 7, 1), Code.frame(0, 10, 10));
    }

    private static void registers() {
        FrameUnwinder x = losing();
        for (int r = 0; r < 8; r++) {
            x.register(r, r == 3 ? MIN : 7);
            x.register(r, MAX - r);
            Check.same("get(" + r + ")", x.get(r), MAX - r);
        }
        x.register(6, 15);
        x.start(10);
        Check.same("unwind()", x.unwind(0), 0);
        Check.same("get(9) with 0 and 1 lost", x.get(9), 252);
        x.register(1, 0);
        Check.same("get(9) with 1 known again", x.get(9), 254);
        x.register(0, -5);
        Check.same("get(9) with all known again", x.get(9), 255);
        Check.same("get(0)", x.get(0), -5);
        Check.same("get(10)", x.get(10), 1);
    }

    private static void noSuchRegister() {
        FrameUnwinder x = new FrameUnwinder();
        for (int r : new int[] {-1, 8, 9, 10, MIN, MAX}) {
            Check.refused("register(" + r + ", 1)", IndexOutOfBoundsException.class, () -> x.register(r, 1));
        }
        Expect.frame("after them", x, 0, 0, 0, 0, 0, 0, 0, 0, 0, 255, 0);
        x.register(0, 1);
        x.register(7, 2);
        Expect.frame("in the end", x, 1, 0, 0, 0, 0, 0, 0, 2, 0, 255, 0);
    }

    private static void firstFrame() {
        FrameUnwinder x = losing();
        for (int pc : new int[] {1, -1, MIN, MAX}) {
            x.start(pc);
            Check.same("get(8)", x.get(8), pc);
        }
        x.register(6, 20);
        x.start(19);
        Check.same("unwind() of a first frame at 19", x.unwind(0), 0);
        Check.same("unwind() of a caller at 20", x.unwind(0), 0);
        Check.same("get(10)", x.get(10), 2);
        x.start(20);
        Check.same("get(10) after start()", x.get(10), 0);
        Check.same("unwind() of a first frame at 20", x.unwind(0), BASE);
        x.start(10);
        Check.same("unwind() of a first frame at 10", x.unwind(0), 0);
        Check.same("get(10)", x.get(10), 1);
    }

    private static void registersStay() {
        FrameUnwinder x = losing();
        for (int r = 0; r < 8; r++) {
            x.register(r, r + 11);
        }
        x.start(10);
        Expect.frame("after start()", x, 11, 12, 13, 14, 15, 16, 17, 18, 10, 255, 0);
        Check.same("unwind()", x.unwind(0), 0);
        x.start(10);
        Expect.frame("after another start()", x, 0, 0, 13, 14, 15, 16, 17, 18, 10, 252, 0);
    }

    private static void valueOrZero() {
        FrameUnwinder x = losing();
        int[] numbers = {MIN, MAX, -1, 1, 2, 3, 15, 5};
        for (int r = 0; r < 8; r++) {
            x.register(r, numbers[r]);
        }
        Expect.frame("of registers", x, numbers);
        x.start(10);
        Check.same("unwind()", x.unwind(0), 0);
        Expect.frame("of the caller", x, 0, 0, -1, 1, 2, 3, 15, 5);
    }

    private static void pc() {
        FrameUnwinder x = losing();
        x.start(10);
        Check.same("get(8)", x.get(8), 10);
        x.register(6, MIN);
        Check.same("unwind()", x.unwind(0), 0);
        Check.same("get(8) of the caller", x.get(8), MIN);
    }

    private static void knownBits() {
        for (int r = 0; r < 8; r++) {
            int back = r == 6 ? 5 : 6;
            byte[] common = Code.common(1, 1, back, 12, r == 7 ? 0 : 7, 0, 8, back, 7, r);
            FrameUnwinder x = Code.load(common, Code.frame(0, 0, 1));
            Check.same("get(9)", x.get(9), 255);
            Check.same("unwind()", x.unwind(0), 0);
            Check.same("get(9) with register " + r + " lost", x.get(9), 255 - (1 << r));
        }
    }

    private static void unwoundFrames() {
        FrameUnwinder x = losing();
        x.register(6, 15);
        x.start(10);
        for (int n = 0; n < 50; n++) {
            Check.same("get(10)", x.get(10), n);
            Check.same("unwind()", x.unwind(0), 0);
        }
        x.register(6, 5);
        Check.same("unwind()", x.unwind(0), 0);
        Check.same("unwind() of the base", x.unwind(0), BASE);
        Check.same("get(10) at the base", x.get(10), 51);
        x.start(10);
        Check.same("get(10) after start()", x.get(10), 0);
    }

    private static void otherRegisters() {
        FrameUnwinder x = new FrameUnwinder();
        for (int r : new int[] {-1, 11, 12, MIN, MAX}) {
            Check.refused("get(" + r + ")", IndexOutOfBoundsException.class, () -> x.get(r));
        }
        Check.same("get(0)", x.get(0), 0);
        Check.same("get(10)", x.get(10), 0);
    }

    /** An object in which nothing is as it was at first. */
    private static FrameUnwinder used() {
        FrameUnwinder x = Code.load(Code.common(1, -4, 6, 12, 7, 0, 8, 6, 7, 0, 7, 1, 7, 2), Code.frame(0, 10, 10));
        for (int r = 0; r < 8; r++) {
            x.register(r, 10 + r);
        }
        for (int address = 0; address < 1024; address += 100) {
            x.word(address, address + 1);
        }
        x.start(12);
        Check.same("unwind()", x.unwind(0), 0);
        x.spoil(3, 60);
        Check.same("reckon(3, 4, 9)", x.reckon(3, 4, 9), 0);
        x.spoil(3, 0);
        Check.same("value()", x.value(), 12);
        Check.same("fault()", x.fault(), -1);
        return x;
    }

    private static void throwsChangeNothing() {
        String due = picture(used());
        FrameUnwinder x = used();
        throwingCalls(x);
        Check.refused("row(9, 0, 0)", NoSuchElementException.class, () -> x.row(9, 0, 0));
        Check.refused("row(10, 8, 0)", IllegalArgumentException.class, () -> x.row(10, 8, 0));
        Check.refused("row(10, 0, 3)", IllegalArgumentException.class, () -> x.row(10, 0, 3));
        Check.refused("unwind(2001)", IllegalArgumentException.class, () -> x.unwind(2001));
        Check.same("whether all is as it was", picture(x).equals(due) ? 1 : 0, 1);
        FrameUnwinder spoilt = used();
        spoilt.spoil(8, 2);
        String dueSpoilt = picture(spoilt);
        FrameUnwinder y = used();
        y.spoil(8, 2);
        throwingCalls(y);
        Check.refused("find(10)", IllegalStateException.class, () -> y.find(10));
        Check.refused("row(10, 0, 0)", IllegalStateException.class, () -> y.row(10, 0, 0));
        Check.refused("unwind(9)", IllegalStateException.class, () -> y.unwind(9));
        Check.same("whether all is as it was, unsound", picture(y).equals(dueSpoilt) ? 1 : 0, 1);
    }

    private static void throwingCalls(FrameUnwinder x) {
        Check.refused("end(-1)", IllegalArgumentException.class, () -> x.end(-1));
        Check.refused("end(400)", IllegalArgumentException.class, () -> x.end(400));
        Check.refused("spoil(-1, 9)", IndexOutOfBoundsException.class, () -> x.spoil(-1, 9));
        Check.refused("spoil(400, 9)", IndexOutOfBoundsException.class, () -> x.spoil(400, 9));
        Check.refused("word(-4, 9)", IndexOutOfBoundsException.class, () -> x.word(-4, 9));
        Check.refused("word(2, 9)", IndexOutOfBoundsException.class, () -> x.word(2, 9));
        Check.refused("word(1024, 9)", IndexOutOfBoundsException.class, () -> x.word(1024, 9));
        Check.refused("register(-1, 9)", IndexOutOfBoundsException.class, () -> x.register(-1, 9));
        Check.refused("register(8, 9)", IndexOutOfBoundsException.class, () -> x.register(8, 9));
        Check.refused("reckon(3, 2, 9)", IllegalArgumentException.class, () -> x.reckon(3, 2, 9));
        Check.refused("reckon(0, 400, 9)", IllegalArgumentException.class, () -> x.reckon(0, 400, 9));
        Check.refused("reckon(0, 1, -1)", IllegalArgumentException.class, () -> x.reckon(0, 1, -1));
        Check.refused("get(-1)", IndexOutOfBoundsException.class, () -> x.get(-1));
        Check.refused("get(11)", IndexOutOfBoundsException.class, () -> x.get(11));
    }

    /** The 512th call answers as it must, though each one ahead of it did something. */
    private static void manyCalls() {
        FrameUnwinder x = new FrameUnwinder();
        byte[] section = Code.join(Code.common(1, 4, 6, 15, 2, 48, 150, 8, 6), Code.frame(0, 0, 100, 0, 0));
        int calls = section.length / 4 + 1;
        Code.feed(x, section);
        int unwound = 0;
        x.register(6, 7);
        calls++;
        for (; calls < 511; calls++) {
            unwound += x.unwind(2) == 0 ? 1 : 0;
        }
        Check.same("get(10), the 512th call", x.get(10), unwound);
        Check.same("whether each call unwound a frame", unwound, 511 - section.length / 4 - 2);
    }
}
