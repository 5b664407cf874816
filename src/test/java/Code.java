import java.io.ByteArrayOutputStream;

/** Writes the bytes of sections, entries, instructions and expressions. */
final class Code {
    private final ByteArrayOutputStream out = new ByteArrayOutputStream();

    /** The bytes as they are told. */
    static byte[] of(int... bytes) {
        Code code = new Code();
        for (int b : bytes) {
            code.u1(b);
        }
        return code.bytes();
    }

    static byte[] join(byte[]... parts) {
        Code code = new Code();
        for (byte[] part : parts) {
            code.add(part);
        }
        return code.bytes();
    }

    static byte[] uleb(int number) {
        Code code = new Code();
        int rest = number;
        while (rest >>> 7 != 0) {
            code.u1(rest & 127 | 128);
            rest >>>= 7;
        }
        return code.u1(rest).bytes();
    }

    static byte[] sleb(int number) {
        Code code = new Code();
        int rest = number;
        while (rest < -64 || rest > 63) {
            code.u1(rest & 127 | 128);
            rest >>= 7;
        }
        return code.u1(rest & 127).bytes();
    }

    static byte[] u4(int number) {
        return new Code().number(4, number).bytes();
    }

    /** A common entry. */
    static byte[] common(int code, int data, int returnRegister, int... instructions) {
        return common(code, data, returnRegister, of(instructions));
    }

    static byte[] common(int code, int data, int returnRegister, byte[] instructions) {
        return entry(join(u4(-1), of(1), uleb(code), sleb(data), uleb(returnRegister), instructions));
    }

    /** A frame entry. */
    static byte[] frame(int common, int first, int range, int... instructions) {
        return frame(common, first, range, of(instructions));
    }

    static byte[] frame(int common, int first, int range, byte[] instructions) {
        return entry(join(u4(common), u4(first), u4(range), instructions));
    }

    /** An entry of these bytes, with its length ahead. */
    static byte[] entry(byte[] inside) {
        return join(u4(inside.length), inside);
    }

    /** A new object that has these bytes as its section. */
    static FrameUnwinder load(byte[]... parts) {
        FrameUnwinder x = new FrameUnwinder();
        feed(x, join(parts));
        return x;
    }

    /** Gives these bytes to an object whose section is empty. */
    static void feed(FrameUnwinder x, byte[] bytes) {
        for (int k = 0; k < bytes.length; k += 4) {
            int four = 0;
            for (int j = 0; j < 4 && k + j < bytes.length; j++) {
                four |= (bytes[k + j] & 255) << (8 * j);
            }
            x.feed(four);
        }
        x.end(bytes.length);
    }

    Code u1(int b) {
        out.write(b);
        return this;
    }

    Code number(int count, int number) {
        for (int k = 0; k < count; k++) {
            u1(number >>> (8 * k));
        }
        return this;
    }

    Code add(byte[] part) {
        out.write(part, 0, part.length);
        return this;
    }

    byte[] bytes() {
        return out.toByteArray();
    }
}
