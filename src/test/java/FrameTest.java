/** Promises 9 (word), 10 (register), 11 (start), 15 (get). */
public final class FrameTest {
    private FrameTest() {
    }

    public static void main(String[] args) {
        words();
        registers();
        starting();
        getting();
        Check.finish();
    }

    private static void words() {
        FrameUnwinder x = Code.load(Code.of(112, 0, 6));
        for (int address : new int[] {0, 4, 512, 1016, 1020}) {
            x.word(address, address + 7);
            x.word(address, -address - 1);
            x.register(0, address);
            Check.same("reckon() of a word", x.reckon(0, 3, 9), 0);
            Check.same("the word at " + address, x.value(), -address - 1);
        }
        x.register(0, 8);
        x.reckon(0, 3, 9);
        Check.same("the word at 8", x.value(), 0);
        int[] none = {-4, -1, 1, 2, 3, 5, 1018, 1021, 1024, Integer.MIN_VALUE, Integer.MAX_VALUE};
        for (int address : none) {
            Check.refused("word(" + address + ", 1)", IndexOutOfBoundsException.class,
                () -> x.word(address, 1));
        }
        x.register(0, 0);
        x.reckon(0, 3, 9);
        Check.same("the word at 0 in the end", x.value(), -1);
    }

    private static void registers() {
        FrameUnwinder x = new FrameUnwinder();
        for (int r = 0; r < 8; r++) {
            x.register(r, 100 + r);
        }
        x.register(3, -5);
        for (int r = 0; r < 8; r++) {
            Check.same("get(" + r + ")", x.get(r), r == 3 ? -5 : 100 + r);
        }
        for (int r : new int[] {-1, 8, 9, Integer.MIN_VALUE, Integer.MAX_VALUE}) {
            Check.refused("register(" + r + ", 1)", IndexOutOfBoundsException.class,
                () -> x.register(r, 1));
        }
        Check.same("get(8)", x.get(8), 0);
        Check.same("get(9)", x.get(9), 255);
    }

    /** CFA is register 7; register 6 keeps the return address, 0 and 1 are lost. */
    private static FrameUnwinder losing() {
        return Code.load(Code.common(1, -4, 6, 12, 7, 0, 8, 6, 7, 0, 7, 1), Code.frame(0, 10, 10));
    }

    private static void starting() {
        FrameUnwinder x = losing();
        x.register(2, 22);
        x.register(6, 20);
        x.start(10);
        Check.same("get(8)", x.get(8), 10);
        Check.same("unwind()", x.unwind(0), 0);
        Check.same("unwind() of a caller at 20", x.unwind(0), 0);
        Check.same("get(10)", x.get(10), 2);
        Check.same("get(9)", x.get(9), 252);
        x.start(20);
        Check.same("get(10) after start()", x.get(10), 0);
        Check.same("get(9) after start()", x.get(9), 252);
        Check.same("get(2) after start()", x.get(2), 22);
        Check.same("get(8) after start()", x.get(8), 20);
        Check.same("unwind() of a first frame at 20", x.unwind(0), 10);
        x.start(-7);
        Check.same("get(8) after start(-7)", x.get(8), -7);
    }

    private static void getting() {
        FrameUnwinder x = losing();
        for (int r = 0; r < 6; r++) {
            x.register(r, r + 1);
        }
        x.register(6, 13);
        x.register(7, 77);
        x.start(12);
        Check.same("get(10)", x.get(10), 0);
        Check.same("unwind()", x.unwind(0), 0);
        int[] due = {0, 0, 3, 4, 5, 6, 13, 77, 13, 252, 1};
        for (int r = 0; r < due.length; r++) {
            Check.same("get(" + r + ")", x.get(r), due[r]);
        }
        x.register(1, 0);
        Check.same("get(9) with 1 known again", x.get(9), 254);
        Check.same("get(1)", x.get(1), 0);
        x.register(0, 9);
        Check.same("get(9) with all known again", x.get(9), 255);
        Check.same("get(0)", x.get(0), 9);
        for (int r : new int[] {-1, 11, Integer.MIN_VALUE, Integer.MAX_VALUE}) {
            Check.refused("get(" + r + ")", IndexOutOfBoundsException.class, () -> x.get(r));
        }
    }
}
