/** Promises 1 (a new object), 2 (feed), 3 (end), 4 (spoil). */
public final class BytesTest {
    private BytesTest() {
    }

    public static void main(String[] args) {
        newObject();
        feeding();
        ending();
        spoiling();
        Check.finish();
    }

    private static void newObject() {
        FrameUnwinder x = new FrameUnwinder();
        Check.same("NONE", FrameUnwinder.NONE, -1);
        Check.same("fault()", x.fault(), -1);
        Check.same("entries()", x.entries(), 0);
        Check.same("find(0)", x.find(0), -1);
        Check.same("value()", x.value(), 0);
        for (int r = 0; r < 8; r++) {
            Check.same("get(" + r + ")", x.get(r), 0);
        }
        Check.same("get(8)", x.get(8), 0);
        Check.same("get(9)", x.get(9), 255);
        Check.same("get(10)", x.get(10), 0);
        Check.same("unwind(0)", x.unwind(0), 10);
        Check.refused("spoil(0, 0) of nothing", IndexOutOfBoundsException.class, () -> x.spoil(0, 0));
        memoryIsZero();
    }

    private static void memoryIsZero() {
        byte[] low = orOfWords(508, 0);
        FrameUnwinder x = Code.load(low, orOfWords(1020, 512));
        int half = low.length;
        Check.same("reckon() of the words up to 508", x.reckon(0, half, 2000), 0);
        Check.same("value()", x.value(), 0);
        Check.same("reckon() of the words from 512 on", x.reckon(half, 2 * half, 2000), 0);
        Check.same("value()", x.value(), 0);
        x.word(0, 1);
        x.word(1020, 2);
        x.reckon(0, half, 2000);
        Check.same("value() with a word at 0", x.value(), 1);
        x.reckon(half, 2 * half, 2000);
        Check.same("value() with a word at 1020", x.value(), 2);
    }

    /** An expression whose value has the bits of all words from one address down to another one. */
    private static byte[] orOfWords(int from, int to) {
        return new Code().u1(10).number(2, from).u1(48)
            .u1(20).u1(6).u1(33).u1(22).u1(52).u1(28).u1(22)
            .u1(20).u1(10).number(2, to).u1(42).u1(40).number(2, -15)
            .bytes();
    }

    private static void feeding() {
        FrameUnwinder x = new FrameUnwinder();
        Check.same("feed()", x.feed(0x84838281), 4);
        Check.same("feed()", x.feed(-2), 8);
        int[] due = {0x81, 0x82, 0x83, 0x84, 0xFE, 0xFF, 0xFF, 0xFF};
        for (int k = 0; k < due.length; k++) {
            Check.same("spoil(" + k + ", 0)", x.spoil(k, 0), due[k]);
        }
        for (int n = 12; n <= 512; n += 4) {
            Check.same("feed()", x.feed(n), n);
        }
        Check.refused("feed() beyond 512", UnsupportedOperationException.class, () -> x.feed(0));
        Check.same("spoil(511, 7)", x.spoil(511, 7), 0);
        x.end(509);
        Check.refused("feed() from 509", UnsupportedOperationException.class, () -> x.feed(0));
        x.end(508);
        Check.same("feed() from 508", x.feed(0x55000000), 512);
        Check.same("spoil(511, 0)", x.spoil(511, 0), 0x55);
    }

    private static void ending() {
        FrameUnwinder x = new FrameUnwinder();
        x.feed(0x04030201);
        x.feed(0x08070605);
        Check.refused("end(9)", IllegalArgumentException.class, () -> x.end(9));
        Check.refused("end(-1)", IllegalArgumentException.class, () -> x.end(-1));
        x.end(8);
        x.end(5);
        Check.refused("end(6) of 5", IllegalArgumentException.class, () -> x.end(6));
        Check.refused("spoil(5, 0) of 5", IndexOutOfBoundsException.class, () -> x.spoil(5, 0));
        Check.same("feed() behind 5", x.feed(0x0D0C0B0A), 9);
        Check.same("spoil(4, 0)", x.spoil(4, 0), 5);
        Check.same("spoil(5, 0)", x.spoil(5, 0), 10);
        Check.same("spoil(8, 0)", x.spoil(8, 0), 13);
        x.end(0);
        Check.same("entries() of nothing", x.entries(), 0);
        Check.refused("end(1) of 0", IllegalArgumentException.class, () -> x.end(1));
    }

    private static void spoiling() {
        FrameUnwinder x = new FrameUnwinder();
        x.feed(0);
        Check.same("spoil(3, -1)", x.spoil(3, -1), 0);
        Check.same("spoil(3, 0x1FE)", x.spoil(3, 0x1FE), 255);
        Check.same("spoil(3, 256)", x.spoil(3, 256), 0xFE);
        Check.same("spoil(3, 1)", x.spoil(3, 1), 0);
        Check.refused("spoil(-1, 0)", IndexOutOfBoundsException.class, () -> x.spoil(-1, 0));
        Check.refused("spoil(4, 0)", IndexOutOfBoundsException.class, () -> x.spoil(4, 0));
        Check.refused("spoil(MIN, 0)", IndexOutOfBoundsException.class,
            () -> x.spoil(Integer.MIN_VALUE, 0));
        Check.refused("spoil(MAX, 0)", IndexOutOfBoundsException.class,
            () -> x.spoil(Integer.MAX_VALUE, 0));
    }
}
