import java.util.NoSuchElementException;
import java.util.Random;

/** Any calls at all: no exception but those of the face, and a call that throws changes nothing. */
public final class AnyCallsTest {
    private static final int RUNS = 12000;
    private static final int CALLS = 12;
    private static final int[] EDGES = {Integer.MIN_VALUE, -1025, -4, -2, -1, 0, 1, 2, 3, 4, 7, 8, 9, 10, 11,
        12, 15, 16, 64, 511, 512, 513, 1020, 1024, 2000, 2001, Integer.MAX_VALUE};

    private final Random random;
    private FrameUnwinder x;
    private int throwing;
    private int unwound;

    private AnyCallsTest(long seed) {
        random = new Random(seed);
    }

    public static void main(String[] args) {
        AnyCallsTest test = new AnyCallsTest(20261115);
        for (int run = 0; run < RUNS; run++) {
            test.run();
        }
        Check.same("whether some calls threw", test.throwing > 0 ? 1 : 0, 1);
        Check.same("whether some frames were unwound", test.unwound > 0 ? 1 : 0, 1);
        Check.finish();
    }

    private void run() {
        x = Code.load(section());
        for (int r = 0; r < 8; r++) {
            x.register(r, 4 * random.nextInt(256));
        }
        for (int k = 0; k < CALLS; k++) {
            long before = picture();
            int call = random.nextInt(14);
            int a = any();
            int b = any();
            int c = any();
            try {
                make(call, a, b, c);
            } catch (RuntimeException e) {
                throwing++;
                String text = "call " + call + " with " + a + ", " + b + ", " + c;
                Check.same(text + " throws " + e, declared(call, e) ? 1 : 0, 1);
                Check.same("the picture after " + text, picture(), before);
            }
        }
    }

    private int any() {
        int kind = random.nextInt(4);
        return kind == 0 ? EDGES[random.nextInt(EDGES.length)]
            : kind == 1 ? random.nextInt() : kind == 2 ? random.nextInt(16) : random.nextInt(128);
    }

    private byte[] anyBytes(int most) {
        byte[] bytes = new byte[random.nextInt(most)];
        random.nextBytes(bytes);
        return bytes;
    }

    private byte[] instructions(int count) {
        Code code = new Code();
        for (int k = 0; k < count; k++) {
            int operation = new int[] {5, 7, 8, 9, 12, 13, 14, 16, 17, 19, 20, 22}[random.nextInt(12)];
            code.u1(operation);
            if (operation != 14 && operation != 19) {
                code.u1(random.nextInt(8));
            }
            if (operation == 16 || operation == 22) {
                byte[] expression = expression();
                code.u1(expression.length).add(expression);
            } else if (operation != 7 && operation != 8 && operation != 13) {
                code.u1(random.nextInt(operation == 9 ? 8 : 64));
            }
        }
        return code.bytes();
    }

    private byte[] expression() {
        Code code = new Code();
        int count = random.nextInt(5);
        for (int k = 0; k < count; k++) {
            code.u1(random.nextInt(3) == 0 ? random.nextInt(256) : 48 + 4 * random.nextInt(8));
        }
        return code.bytes();
    }

    private byte[] section() {
        if (random.nextInt(4) == 0) {
            return anyBytes(80);
        }
        byte[] common = Code.common(random.nextInt(4), random.nextInt(9) - 4, random.nextInt(8),
            Code.join(Code.of(12, random.nextInt(8), 4), instructions(random.nextInt(4))));
        byte[] whole = Code.join(common, Code.frame(0, 0, 64, instructions(random.nextInt(6))),
            Code.frame(0, 32, 2000, instructions(random.nextInt(6))));
        if (random.nextInt(3) == 0) {
            whole[random.nextInt(whole.length)] = (byte) random.nextInt();
        }
        return whole;
    }

    private void make(int call, int a, int b, int c) {
        switch (call) {
            case 0: x.feed(a); break;
            case 1: x.end(a); break;
            case 2: x.spoil(a, b); break;
            case 3: x.fault(); break;
            case 4: x.entries(); break;
            case 5: x.find(a); break;
            case 6: x.row(a, b, c); break;
            case 7: x.word(a, b); break;
            case 8: x.register(a, b); break;
            case 9: x.start(a); break;
            case 10: x.reckon(a, b, c); break;
            case 11: x.value(); break;
            case 12: unwound += x.unwind(a) == 0 ? 1 : 0; break;
            default: x.get(a); break;
        }
    }

    private static boolean declared(int call, RuntimeException e) {
        Class<?> kind = e.getClass();
        switch (call) {
            case 0: return kind == UnsupportedOperationException.class;
            case 1: return kind == IllegalArgumentException.class;
            case 5: return kind == IllegalStateException.class;
            case 6: return kind == IllegalStateException.class || kind == NoSuchElementException.class
                || kind == IllegalArgumentException.class;
            case 10: return kind == IllegalArgumentException.class;
            case 12: return kind == IllegalStateException.class || kind == IllegalArgumentException.class;
            case 2: case 7: case 8: return kind == IndexOutOfBoundsException.class;
            case 3: case 4: case 9: case 11: return false;
            default: return kind == IndexOutOfBoundsException.class;
        }
    }

    /** A number made of what can be seen without changing anything. */
    private long picture() {
        long sum = 31L * x.fault() + x.entries();
        sum = 31 * sum + x.value();
        for (int r = 0; r <= 10; r++) {
            sum = 31 * sum + x.get(r);
        }
        if (x.fault() == FrameUnwinder.NONE) {
            sum = 31 * sum + x.find(40);
        }
        return sum;
    }
}
