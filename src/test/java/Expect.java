/** What several tests ask of an object. */
final class Expect {
    private Expect() {
    }

    /** The section of these parts is sound. */
    static void sound(String what, int entries, byte[]... parts) {
        FrameUnwinder x = Code.load(parts);
        Check.same("fault() of " + what, x.fault(), FrameUnwinder.NONE);
        Check.same("entries() of " + what, x.entries(), entries);
    }

    /** The section of these parts has its fault at that place. */
    static void fault(String what, int place, byte[]... parts) {
        FrameUnwinder x = Code.load(parts);
        Check.same("fault() of " + what, x.fault(), place);
        Check.same("entries() of " + what, x.entries(), FrameUnwinder.NONE);
    }

    /** All that row() tells of one rule. */
    static void rule(FrameUnwinder x, int pc, int r, int kind, int number, int second) {
        String call = "row(" + pc + ", " + r + ", ";
        Check.same(call + "0)", x.row(pc, r, 0), kind);
        Check.same(call + "1)", x.row(pc, r, 1), number);
        Check.same(call + "2)", x.row(pc, r, 2), second);
    }

    /** The whole of these bytes is an expression with that value. */
    static void gives(int due, byte[] code) {
        FrameUnwinder x = Code.load(code);
        Check.same("reckon() of" + text(code), x.reckon(0, code.length, 2000), 0);
        Check.same("value() of" + text(code), x.value(), due);
    }

    static void gives(int due, int... code) {
        gives(due, Code.of(code));
    }

    /** The whole of these bytes is an expression that fails so. */
    static void fails(int due, byte[] code) {
        FrameUnwinder x = Code.load(code);
        Check.same("reckon() of" + text(code), x.reckon(0, code.length, 2000), due);
        Check.same("value() of" + text(code), x.value(), 0);
    }

    static void fails(int due, int... code) {
        fails(due, Code.of(code));
    }

    /** Compares what get() tells, from register 0 on. */
    static void frame(String what, FrameUnwinder x, int... due) {
        for (int r = 0; r < due.length; r++) {
            Check.same("get(" + r + ") " + what, x.get(r), due[r]);
        }
    }

    /** The step is refused, or it is the base, and nothing changes. */
    static void stays(int due, FrameUnwinder x, int fuel, String what) {
        int[] before = new int[11];
        for (int r = 0; r < before.length; r++) {
            before[r] = x.get(r);
        }
        Check.same("unwind(" + fuel + ") of " + what, x.unwind(fuel), due);
        frame("after unwind(" + fuel + ") of " + what, x, before);
    }

    private static String text(byte[] code) {
        StringBuilder text = new StringBuilder();
        for (byte b : code) {
            text.append(' ').append(b & 255);
        }
        return text.toString();
    }
}
