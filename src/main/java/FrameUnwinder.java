import java.util.NoSuchElementException;

/**
 * An unwinder of call frames: a section of bytes with common entries and frame entries, rules for
 * registers at each place of a program, expressions on a stack, and steps from a frame to its
 * caller's.
 */
public final class FrameUnwinder {
    public static final int NONE = -1;

    private static final int MOST_BYTES = 512;
    private static final int MOST_ENTRIES = 16;
    private static final int MOST_REMEMBERED = 4;
    private static final int MOST_NUMBERS = 16;
    private static final int MOST_FUEL = 2000;
    private static final int REGISTERS = 8;
    private static final int WORDS = 256;

    private static final int DONE = 0;
    private static final int FUEL = 1;
    private static final int BYTES = 2;
    private static final int STACK = 3;
    private static final int READ = 4;
    private static final int DIVISION = 5;
    private static final int CFA_NOT_TOLD = 6;
    private static final int BASE = 10;

    private static final int GET_PC = 8;
    private static final int GET_KNOWN = 9;
    private static final int GET_UNWOUND = 10;

    private final Section section;
    private final Layout layout;
    private final Tracer tracer;
    private final Memory memory;
    private final Frame frame;
    private final Frame caller;
    private final Reckoner reckoner;
    private int lastValue;

    public FrameUnwinder() {
        section = new Section();
        Reader reader = new Reader(section.bytes);
        layout = new Layout(section, reader);
        tracer = new Tracer(reader);
        memory = new Memory();
        frame = new Frame();
        caller = new Frame();
        reckoner = new Reckoner(reader, memory, frame);
        lastValue = 0;
    }

    public int feed(int bytes) throws UnsupportedOperationException {
        if (section.size + 4 > MOST_BYTES) {
            throw new UnsupportedOperationException();
        }
        section.append(bytes);
        return section.size;
    }

    public void end(int n) throws IllegalArgumentException {
        if (n < 0 || n > section.size) {
            throw new IllegalArgumentException();
        }
        section.size = n;
    }

    public int spoil(int k, int b) throws IndexOutOfBoundsException {
        if (k < 0 || k >= section.size) {
            throw new IndexOutOfBoundsException();
        }
        return section.replace(k, b);
    }

    public int fault() {
        return layout.firstFault();
    }

    public int entries() {
        return layout.firstFault() == NONE ? layout.count : NONE;
    }

    public int find(int pc) throws IllegalStateException {
        if (layout.firstFault() != NONE) {
            throw new IllegalStateException();
        }
        return layout.indexAt(pc);
    }

    public int row(int pc, int r, int what)
            throws IllegalStateException, NoSuchElementException, IllegalArgumentException {
        if (layout.firstFault() != NONE) {
            throw new IllegalStateException();
        }
        int index = layout.indexAt(pc);
        if (index == NONE) {
            throw new NoSuchElementException();
        }
        if (r < -1 || r >= REGISTERS || what < 0 || what > 2) {
            throw new IllegalArgumentException();
        }
        Entry entry = layout.list[index];
        Row row = tracer.rowAt(entry, layout.list[entry.common], pc);
        return row.part(r == -1 ? Row.CFA : r, what);
    }

    public void word(int address, int v) throws IndexOutOfBoundsException {
        if (!memory.has(address)) {
            throw new IndexOutOfBoundsException();
        }
        memory.store(address, v);
    }

    public void register(int r, int v) throws IndexOutOfBoundsException {
        if (r < 0 || r >= REGISTERS) {
            throw new IndexOutOfBoundsException();
        }
        frame.learn(r, v);
    }

    public void start(int pc) {
        frame.pc = pc;
        frame.unwound = 0;
    }

    public int reckon(int from, int to, int fuel) throws IllegalArgumentException {
        if (from < 0 || to < from || to > section.size || !isFuel(fuel)) {
            throw new IllegalArgumentException();
        }
        reckoner.clear();
        int failure = reckoner.run(from, to, fuel);
        lastValue = failure == DONE ? reckoner.top() : 0;
        return failure;
    }

    public int value() {
        return lastValue;
    }

    public int unwind(int fuel) throws IllegalStateException, IllegalArgumentException {
        if (layout.firstFault() != NONE) {
            throw new IllegalStateException();
        }
        if (!isFuel(fuel)) {
            throw new IllegalArgumentException();
        }
        int place = frame.place();
        int index = layout.indexAt(place);
        if (index == NONE) {
            return BASE;
        }
        Entry entry = layout.list[index];
        Entry common = layout.list[entry.common];
        Row row = tracer.rowAt(entry, common, place);
        if (row.kinds[common.returnRegister] == Row.UNDEFINED) {
            return BASE;
        }
        int failure = reckonCfa(row, fuel);
        int cfa = reckoner.top();
        for (int r = 0; r < REGISTERS && failure == DONE; r++) {
            failure = recover(row, r, cfa, fuel);
        }
        return failure == DONE ? goToCaller(common.returnRegister) : failure;
    }

    public int get(int r) throws IndexOutOfBoundsException {
        if (r < 0 || r > GET_UNWOUND) {
            throw new IndexOutOfBoundsException();
        }
        switch (r) {
            case GET_PC:
                return frame.pc;
            case GET_KNOWN:
                return frame.known;
            case GET_UNWOUND:
                return frame.unwound;
            default:
                return frame.values[r];
        }
    }

    private static boolean isFuel(int fuel) {
        return fuel >= 0 && fuel <= MOST_FUEL;
    }

    /** Leaves CFA on top of the reckoner's stack. */
    private int reckonCfa(Row row, int fuel) {
        int number = row.numbers[Row.CFA];
        int second = row.seconds[Row.CFA];
        reckoner.clear();
        switch (row.kinds[Row.CFA]) {
            case Row.CFA_REGISTER:
                if (!frame.knows(second)) {
                    return READ;
                }
                reckoner.push(frame.values[second] + number);
                return DONE;
            case Row.CFA_EXPRESSION:
                return reckoner.run(number, number + second, fuel);
            default:
                return CFA_NOT_TOLD;
        }
    }

    /** Fills the caller's frame beside this one, so that a refused step leaves this one as it was. */
    private int recover(Row row, int r, int cfa, int fuel) {
        int number = row.numbers[r];
        switch (row.kinds[r]) {
            case Row.SAME:
                return recoverRegister(r, r);
            case Row.OFFSET:
                return recoverWord(r, cfa + number);
            case Row.VALUE:
                caller.learn(r, cfa + number);
                return DONE;
            case Row.REGISTER:
                return recoverRegister(r, number);
            case Row.EXPRESSION:
            case Row.VALUE_EXPRESSION:
                reckoner.clear();
                reckoner.giveCfa(cfa);
                int failure = reckoner.run(number, number + row.seconds[r], fuel);
                return failure == DONE ? recoverReckoned(r, row.kinds[r]) : failure;
            default:
                caller.forget(r);
                return DONE;
        }
    }

    private int recoverRegister(int r, int from) {
        if (frame.knows(from)) {
            caller.learn(r, frame.values[from]);
        } else {
            caller.forget(r);
        }
        return DONE;
    }

    private int recoverWord(int r, int address) {
        if (!memory.has(address)) {
            return READ;
        }
        caller.learn(r, memory.load(address));
        return DONE;
    }

    private int recoverReckoned(int r, int kind) {
        if (kind == Row.EXPRESSION) {
            return recoverWord(r, reckoner.top());
        }
        caller.learn(r, reckoner.top());
        return DONE;
    }

    private int goToCaller(int returnRegister) {
        if (!caller.knows(returnRegister)) {
            return READ;
        }
        frame.takeRegisters(caller);
        frame.pc = frame.values[returnRegister];
        frame.unwound++;
        return DONE;
    }

    /** The bytes, of which the first size ones are the section's. */
    private static final class Section {
        private final byte[] bytes = new byte[MOST_BYTES];
        private int size;

        /** The caller has seen that there is room. */
        void append(int four) {
            for (int k = 0; k < 4; k++) {
                bytes[size + k] = (byte) (four >>> (8 * k));
            }
            size += 4;
        }

        /** The caller has seen that k is below size. */
        int replace(int k, int b) {
            int old = bytes[k] & 255;
            bytes[k] = (byte) b;
            return old;
        }
    }

    /** Reads numbers one behind the other; what would go beyond the limit breaks it instead. */
    private static final class Reader {
        private static final int LONGEST_LEB = 5;

        private final byte[] bytes;
        private int at;
        private int limit;
        private boolean broken;

        Reader(byte[] bytes) {
            this.bytes = bytes;
        }

        /** Whoever opens has seen that 0 <= from <= to <= the section's size. */
        void open(int from, int to) {
            at = from;
            limit = to;
            broken = false;
        }

        int unsigned(int count) {
            if (broken || count > limit - at) {
                broken = true;
                return 0;
            }
            int number = 0;
            for (int k = 0; k < count; k++) {
                number |= (bytes[at + k] & 255) << (8 * k);
            }
            at += count;
            return number;
        }

        int signed(int count) {
            int spare = 32 - 8 * count;
            return unsigned(count) << spare >> spare;
        }

        int uleb() {
            int number = 0;
            for (int k = 0; k < LONGEST_LEB && !broken && at < limit; k++) {
                int b = bytes[at];
                at++;
                number |= (b & 127) << (7 * k);
                if ((b & 128) == 0) {
                    return number;
                }
            }
            broken = true;
            return 0;
        }

        int sleb() {
            int from = at;
            int number = uleb();
            int bits = 7 * (at - from);
            // A number of five bytes has its sign among the bits that are lost.
            if (broken || bits >= 32 || (bytes[at - 1] & 64) == 0) {
                return number;
            }
            return number | (-1 << bits);
        }

        void skip(int count) {
            if (broken || count < 0 || count > limit - at) {
                broken = true;
                return;
            }
            at += count;
        }
    }

    /** One instruction as it stands in the section. */
    private static final class Instruction {
        private static final int NOTHING = 0;
        private static final int PLACE = 1;
        private static final int ADVANCE_U1 = 2;
        private static final int ADVANCE_U2 = 3;
        private static final int ADVANCE_U4 = 4;
        private static final int OFFSET = 5;
        private static final int RESTORE = 6;
        private static final int UNDEFINED = 7;
        private static final int SAME = 8;
        private static final int REGISTER = 9;
        private static final int REMEMBER = 10;
        private static final int TAKE_BACK = 11;
        private static final int CFA = 12;
        private static final int CFA_REGISTER = 13;
        private static final int CFA_NUMBER = 14;
        private static final int CFA_EXPRESSION = 15;
        private static final int EXPRESSION = 16;
        private static final int OFFSET_SIGNED = 17;
        private static final int CFA_SIGNED = 18;
        private static final int CFA_NUMBER_SIGNED = 19;
        private static final int VALUE = 20;
        private static final int VALUE_SIGNED = 21;
        private static final int VALUE_EXPRESSION = 22;

        private int operation;
        private int register;
        /** The operand as it is written; of an expression, how many bytes it has. */
        private int number;
        /** Where an expression's bytes begin. */
        private int bytesFrom;

        /** Whether there is an instruction with all that belongs to it, and registers that exist. */
        boolean readFrom(Reader in) {
            int first = in.unsigned(1);
            int low = first & 63;
            register = 0;
            number = 0;
            bytesFrom = 0;
            switch (first >> 6) {
                case 1:
                    operation = ADVANCE_U1;
                    number = low;
                    break;
                case 2:
                    operation = OFFSET;
                    register = low;
                    number = in.uleb();
                    break;
                case 3:
                    operation = RESTORE;
                    register = low;
                    break;
                default:
                    operation = low;
                    if (!readOperands(in)) {
                        return false;
                    }
                    break;
            }
            return !in.broken && register >= 0 && register < REGISTERS;
        }

        private boolean readOperands(Reader in) {
            switch (operation) {
                case NOTHING:
                case REMEMBER:
                case TAKE_BACK:
                    return true;
                case ADVANCE_U1:
                    number = in.unsigned(1);
                    return true;
                case ADVANCE_U2:
                    number = in.unsigned(2);
                    return true;
                case PLACE:
                case ADVANCE_U4:
                    number = in.unsigned(4);
                    return true;
                case RESTORE:
                case UNDEFINED:
                case SAME:
                case CFA_REGISTER:
                    register = in.uleb();
                    return true;
                case OFFSET:
                case CFA:
                case VALUE:
                    register = in.uleb();
                    number = in.uleb();
                    return true;
                case OFFSET_SIGNED:
                case CFA_SIGNED:
                case VALUE_SIGNED:
                    register = in.uleb();
                    number = in.sleb();
                    return true;
                case REGISTER:
                    register = in.uleb();
                    number = in.uleb();
                    return number >= 0 && number < REGISTERS;
                case CFA_NUMBER:
                    number = in.uleb();
                    return true;
                case CFA_NUMBER_SIGNED:
                    number = in.sleb();
                    return true;
                case EXPRESSION:
                case VALUE_EXPRESSION:
                    register = in.uleb();
                    readBlock(in);
                    return true;
                case CFA_EXPRESSION:
                    readBlock(in);
                    return true;
                default:
                    return false;
            }
        }

        private void readBlock(Reader in) {
            number = in.uleb();
            bytesFrom = in.at;
            in.skip(number);
        }

        boolean mayStandInCommon() {
            switch (operation) {
                case PLACE:
                case ADVANCE_U1:
                case ADVANCE_U2:
                case ADVANCE_U4:
                case RESTORE:
                case REMEMBER:
                case TAKE_BACK:
                    return false;
                default:
                    return true;
            }
        }
    }

    /**
     * One entry. Frame entries have the index of their common entry, first and range; common entries
     * have the factors and the return register.
     */
    private static final class Entry {
        private boolean isFrame;
        private int begins;
        private int instructions;
        private int ends;
        private int common;
        private int code;
        private int data;
        private int returnRegister;
        private int first;
        private int range;

        boolean covers(int place) {
            long p = place & 0xFFFFFFFFL;
            return isFrame && p >= first && p < (long) first + range;
        }
    }

    /** The entries of the section, as far as it is sound. */
    private static final class Layout {
        private static final int COMMON_ID = -1;
        private static final int COMMON_VERSION = 1;

        private final Section section;
        private final Reader in;
        private final Instruction instruction;
        private final Entry[] list;
        private int count;

        Layout(Section section, Reader in) {
            this.section = section;
            this.in = in;
            instruction = new Instruction();
            list = new Entry[MOST_ENTRIES];
            for (int k = 0; k < MOST_ENTRIES; k++) {
                list[k] = new Entry();
            }
        }

        /** Goes through the whole section anew; if it is NONE, the list is that of the section. */
        int firstFault() {
            int at = 0;
            count = 0;
            for (int k = 0; k < MOST_ENTRIES && at < section.size; k++) {
                Entry entry = list[k];
                int wrong = headFault(entry, at);
                if (wrong == NONE) {
                    wrong = instructionsFault(entry);
                }
                if (wrong != NONE) {
                    return wrong;
                }
                at = entry.ends;
                count++;
            }
            return at < section.size ? at : NONE;
        }

        /** The first frame entry that has the place; NONE. */
        int indexAt(int place) {
            for (int k = 0; k < count; k++) {
                if (list[k].covers(place)) {
                    return k;
                }
            }
            return NONE;
        }

        private int headFault(Entry entry, int at) {
            in.open(at, section.size);
            int length = in.unsigned(4);
            if (in.broken || length < 4 || length > section.size - in.at) {
                return at;
            }
            entry.begins = at;
            entry.ends = in.at + length;
            in.open(in.at, entry.ends);
            int idAt = in.at;
            int id = in.unsigned(4);
            entry.isFrame = id != COMMON_ID;
            if (!entry.isFrame) {
                return commonFault(entry);
            }
            int common = commonAt(id);
            if (common == NONE) {
                return idAt;
            }
            entry.common = common;
            return frameFault(entry);
        }

        /** Looks only at entries ahead of the one that is being read. */
        private int commonAt(int begins) {
            for (int k = 0; k < count; k++) {
                if (list[k].begins == begins && !list[k].isFrame) {
                    return k;
                }
            }
            return NONE;
        }

        private int commonFault(Entry entry) {
            int at = in.at;
            if (in.unsigned(1) != COMMON_VERSION) {
                return at;
            }
            at = in.at;
            entry.code = in.uleb();
            if (in.broken) {
                return at;
            }
            at = in.at;
            entry.data = in.sleb();
            if (in.broken) {
                return at;
            }
            at = in.at;
            entry.returnRegister = in.uleb();
            if (in.broken || entry.returnRegister < 0 || entry.returnRegister >= REGISTERS) {
                return at;
            }
            entry.instructions = in.at;
            return NONE;
        }

        private int frameFault(Entry entry) {
            int at = in.at;
            entry.first = in.unsigned(4);
            if (in.broken || entry.first < 0) {
                return at;
            }
            at = in.at;
            entry.range = in.unsigned(4);
            if (in.broken || entry.range < 0) {
                return at;
            }
            entry.instructions = in.at;
            return NONE;
        }

        private int instructionsFault(Entry entry) {
            int remembered = 0;
            in.open(entry.instructions, entry.ends);
            for (int k = 0; k < MOST_BYTES && in.at < in.limit; k++) {
                int at = in.at;
                if (!instruction.readFrom(in)) {
                    return at;
                }
                if (!entry.isFrame && !instruction.mayStandInCommon()) {
                    return at;
                }
                if (instruction.operation == Instruction.REMEMBER) {
                    remembered++;
                } else if (instruction.operation == Instruction.TAKE_BACK) {
                    remembered--;
                }
                if (remembered < 0 || remembered > MOST_REMEMBERED) {
                    return at;
                }
            }
            return NONE;
        }
    }

    /** The rules of all registers and of CFA. */
    private static final class Row {
        private static final int UNDEFINED = 0;
        private static final int SAME = 1;
        private static final int OFFSET = 2;
        private static final int VALUE = 3;
        private static final int REGISTER = 4;
        private static final int EXPRESSION = 5;
        private static final int VALUE_EXPRESSION = 6;

        private static final int CFA_UNTOLD = 0;
        private static final int CFA_REGISTER = 1;
        private static final int CFA_EXPRESSION = 2;

        /** CFA's rule stands behind those of the registers. */
        private static final int CFA = REGISTERS;
        private static final int RULES = REGISTERS + 1;

        private final int[] kinds = new int[RULES];
        private final int[] numbers = new int[RULES];
        /** How many bytes an expression has, or the register of CFA. */
        private final int[] seconds = new int[RULES];

        void reset(int returnRegister) {
            for (int r = 0; r < REGISTERS; r++) {
                put(r, SAME, 0, 0);
            }
            put(REGISTERS - 1, VALUE, 0, 0);
            put(returnRegister, UNDEFINED, 0, 0);
            put(CFA, CFA_UNTOLD, 0, 0);
        }

        void put(int rule, int kind, int number, int second) {
            kinds[rule] = kind;
            numbers[rule] = number;
            seconds[rule] = second;
        }

        void copyFrom(Row other) {
            System.arraycopy(other.kinds, 0, kinds, 0, RULES);
            System.arraycopy(other.numbers, 0, numbers, 0, RULES);
            System.arraycopy(other.seconds, 0, seconds, 0, RULES);
        }

        void copyRule(Row other, int rule) {
            put(rule, other.kinds[rule], other.numbers[rule], other.seconds[rule]);
        }

        void putCfa(int register, int number) {
            put(CFA, CFA_REGISTER, number, register);
        }

        /** 0 where CFA isn't a register and a number. */
        int cfaRegister() {
            return kinds[CFA] == CFA_REGISTER ? seconds[CFA] : 0;
        }

        /** 0 where CFA isn't a register and a number. */
        int cfaNumber() {
            return kinds[CFA] == CFA_REGISTER ? numbers[CFA] : 0;
        }

        int part(int rule, int what) {
            switch (what) {
                case 0:
                    return kinds[rule];
                case 1:
                    return numbers[rule];
                default:
                    return seconds[rule];
            }
        }
    }

    /** Follows the instructions of a sound section up to a place. */
    private static final class Tracer {
        private final Reader in;
        private final Instruction instruction;
        private final Row row;
        private final Row commonRow;
        private final Row[] remembered;
        private int depth;
        private int place;

        Tracer(Reader in) {
            this.in = in;
            instruction = new Instruction();
            row = new Row();
            commonRow = new Row();
            remembered = new Row[MOST_REMEMBERED];
            for (int k = 0; k < MOST_REMEMBERED; k++) {
                remembered[k] = new Row();
            }
        }

        /** The row is good until the next call. */
        Row rowAt(Entry entry, Entry common, int pc) {
            depth = 0;
            // No place is below 0 without sign, so a common entry's instructions all count.
            place = 0;
            row.reset(common.returnRegister);
            follow(common, common, pc);
            commonRow.copyFrom(row);
            place = entry.first;
            follow(entry, common, pc);
            return row;
        }

        private void follow(Entry entry, Entry common, int pc) {
            in.open(entry.instructions, entry.ends);
            for (int k = 0; k < MOST_BYTES && in.at < in.limit; k++) {
                if (Integer.compareUnsigned(place, pc) > 0 || !instruction.readFrom(in)) {
                    return;
                }
                apply(common.code, common.data);
            }
        }

        private void apply(int code, int data) {
            int number = instruction.number;
            switch (instruction.operation) {
                case Instruction.NOTHING:
                    break;
                case Instruction.PLACE:
                    place = number;
                    break;
                case Instruction.ADVANCE_U1:
                case Instruction.ADVANCE_U2:
                case Instruction.ADVANCE_U4:
                    place += number * code;
                    break;
                case Instruction.REMEMBER:
                    remember();
                    break;
                case Instruction.TAKE_BACK:
                    takeBack();
                    break;
                case Instruction.CFA:
                case Instruction.CFA_REGISTER:
                case Instruction.CFA_NUMBER:
                case Instruction.CFA_EXPRESSION:
                case Instruction.CFA_SIGNED:
                case Instruction.CFA_NUMBER_SIGNED:
                    applyToCfa(data);
                    break;
                default:
                    applyToRegister(data);
                    break;
            }
        }

        private void remember() {
            if (depth < MOST_REMEMBERED) {
                remembered[depth].copyFrom(row);
                depth++;
            }
        }

        private void takeBack() {
            if (depth > 0) {
                depth--;
                row.copyFrom(remembered[depth]);
            }
        }

        private void applyToCfa(int data) {
            int register = instruction.register;
            int number = instruction.number;
            switch (instruction.operation) {
                case Instruction.CFA:
                    row.putCfa(register, number);
                    break;
                case Instruction.CFA_SIGNED:
                    row.putCfa(register, number * data);
                    break;
                case Instruction.CFA_REGISTER:
                    row.putCfa(register, row.cfaNumber());
                    break;
                case Instruction.CFA_NUMBER:
                    row.putCfa(row.cfaRegister(), number);
                    break;
                case Instruction.CFA_NUMBER_SIGNED:
                    row.putCfa(row.cfaRegister(), number * data);
                    break;
                default:
                    row.put(Row.CFA, Row.CFA_EXPRESSION, instruction.bytesFrom, number);
                    break;
            }
        }

        private void applyToRegister(int data) {
            int register = instruction.register;
            int number = instruction.number;
            switch (instruction.operation) {
                case Instruction.OFFSET:
                case Instruction.OFFSET_SIGNED:
                    row.put(register, Row.OFFSET, number * data, 0);
                    break;
                case Instruction.VALUE:
                case Instruction.VALUE_SIGNED:
                    row.put(register, Row.VALUE, number * data, 0);
                    break;
                case Instruction.RESTORE:
                    row.copyRule(commonRow, register);
                    break;
                case Instruction.UNDEFINED:
                    row.put(register, Row.UNDEFINED, 0, 0);
                    break;
                case Instruction.SAME:
                    row.put(register, Row.SAME, 0, 0);
                    break;
                case Instruction.REGISTER:
                    row.put(register, Row.REGISTER, number, 0);
                    break;
                case Instruction.EXPRESSION:
                    row.put(register, Row.EXPRESSION, instruction.bytesFrom, number);
                    break;
                default:
                    row.put(register, Row.VALUE_EXPRESSION, instruction.bytesFrom, number);
                    break;
            }
        }
    }

    /** The words that a program can read. */
    private static final class Memory {
        private final int[] words = new int[WORDS];

        boolean has(int address) {
            return address >= 0 && address < 4 * WORDS && address % 4 == 0;
        }

        /** The caller has seen that there is such an address. */
        int load(int address) {
            return words[address / 4];
        }

        /** The caller has seen that there is such an address. */
        void store(int address, int v) {
            words[address / 4] = v;
        }
    }

    /** A pc and registers; one that isn't known holds 0. */
    private static final class Frame {
        private final int[] values = new int[REGISTERS];
        private int known = (1 << REGISTERS) - 1;
        private int pc;
        private int unwound;

        /** Where its entry and row are looked for: a caller's pc is behind its call, maybe beyond it. */
        int place() {
            return unwound == 0 ? pc : pc - 1;
        }

        boolean knows(int r) {
            return (known & 1 << r) != 0;
        }

        void learn(int r, int v) {
            values[r] = v;
            known |= 1 << r;
        }

        void forget(int r) {
            values[r] = 0;
            known &= ~(1 << r);
        }

        void takeRegisters(Frame other) {
            System.arraycopy(other.values, 0, values, 0, REGISTERS);
            known = other.known;
        }
    }

    /** Reckons expressions on a stack. */
    private static final class Reckoner {
        private static final int ADDRESS = 3;
        private static final int LOAD = 6;
        private static final int U1 = 8;
        private static final int S1 = 9;
        private static final int U2 = 10;
        private static final int S2 = 11;
        private static final int U4 = 13;
        private static final int ULEB = 16;
        private static final int SLEB = 17;
        private static final int AGAIN = 18;
        private static final int DROP = 19;
        private static final int SECOND_AGAIN = 20;
        private static final int NTH_AGAIN = 21;
        private static final int SWAP = 22;
        private static final int BELOW_THIRD = 23;
        private static final int SIZE = 25;
        private static final int AND = 26;
        private static final int DIVIDE = 27;
        private static final int SUBTRACT = 28;
        private static final int REMAINDER = 29;
        private static final int MULTIPLY = 30;
        private static final int MINUS = 31;
        private static final int TURN = 32;
        private static final int OR = 33;
        private static final int ADD = 34;
        private static final int ADD_ULEB = 35;
        private static final int UP = 36;
        private static final int DOWN = 37;
        private static final int DOWN_SIGNED = 38;
        private static final int XOR = 39;
        private static final int JUMP_UNLESS_0 = 40;
        private static final int EQUAL = 41;
        private static final int NOT_BELOW = 42;
        private static final int ABOVE = 43;
        private static final int NOT_ABOVE = 44;
        private static final int BELOW = 45;
        private static final int NOT_EQUAL = 46;
        private static final int JUMP = 47;
        private static final int SMALL = 48;
        private static final int LAST_SMALL = 79;
        private static final int REGISTER = 112;
        private static final int LAST_REGISTER = 119;
        private static final int NOTHING = 150;
        private static final int CFA = 156;

        private static final int MISSING = 0;
        private static final int IDLE = 1;
        private static final int PUSHING = 2;
        private static final int CHANGING_TOP = 3;
        private static final int JOINING = 4;
        private static final int MOVING = 5;
        private static final int JUMPING = 6;

        private final Reader in;
        private final Memory memory;
        private final Frame frame;
        private final int[] stack;
        private int height;
        private boolean hasCfa;
        private int cfa;
        private int begins;

        Reckoner(Reader in, Memory memory, Frame frame) {
            this.in = in;
            this.memory = memory;
            this.frame = frame;
            stack = new int[MOST_NUMBERS];
        }

        void clear() {
            height = 0;
            hasCfa = false;
        }

        void giveCfa(int number) {
            hasCfa = true;
            cfa = number;
            push(number);
        }

        void push(int number) {
            if (height < MOST_NUMBERS) {
                stack[height] = number;
                height++;
            }
        }

        /** 0 if the stack is empty. */
        int top() {
            return height > 0 ? stack[height - 1] : 0;
        }

        /** Goes on with the stack as it is; DONE, or how it failed. */
        int run(int from, int to, int fuel) {
            begins = from;
            in.open(from, to);
            for (int left = fuel; in.at < in.limit; left--) {
                if (left <= 0) {
                    return FUEL;
                }
                int failure = doOne();
                if (failure != DONE) {
                    return failure;
                }
            }
            return height > 0 ? DONE : STACK;
        }

        private int doOne() {
            int operation = in.unsigned(1);
            int family = familyOf(operation);
            int operand = operandOf(operation);
            if (family == MISSING || in.broken) {
                return BYTES;
            }
            boolean overflows = family == PUSHING && height >= MOST_NUMBERS;
            if (overflows || height < neededBy(operation, family, operand)) {
                return STACK;
            }
            switch (family) {
                case PUSHING:
                    return pushFor(operation, operand);
                case CHANGING_TOP:
                    return changeTop(operation, operand);
                case JOINING:
                    return joinTwo(operation);
                case MOVING:
                    return move(operation);
                case JUMPING:
                    return jump(operation, operand);
                default:
                    return DONE;
            }
        }

        private int familyOf(int operation) {
            if (isSmall(operation) || isRegister(operation)) {
                return PUSHING;
            }
            switch (operation) {
                case ADDRESS:
                case U1:
                case S1:
                case U2:
                case S2:
                case U4:
                case ULEB:
                case SLEB:
                case AGAIN:
                case SECOND_AGAIN:
                case NTH_AGAIN:
                    return PUSHING;
                case CFA:
                    return hasCfa ? PUSHING : MISSING;
                case LOAD:
                case SIZE:
                case MINUS:
                case TURN:
                case ADD_ULEB:
                    return CHANGING_TOP;
                case DROP:
                case SWAP:
                case BELOW_THIRD:
                    return MOVING;
                case JUMP_UNLESS_0:
                case JUMP:
                    return JUMPING;
                case NOTHING:
                    return IDLE;
                default:
                    return operation >= AND && operation <= NOT_EQUAL ? JOINING : MISSING;
            }
        }

        private static boolean isSmall(int operation) {
            return operation >= SMALL && operation <= LAST_SMALL;
        }

        private static boolean isRegister(int operation) {
            return operation >= REGISTER && operation <= LAST_REGISTER;
        }

        private int operandOf(int operation) {
            if (isRegister(operation)) {
                return in.sleb();
            }
            switch (operation) {
                case U1:
                case NTH_AGAIN:
                    return in.unsigned(1);
                case S1:
                    return in.signed(1);
                case U2:
                    return in.unsigned(2);
                case S2:
                case JUMP_UNLESS_0:
                case JUMP:
                    return in.signed(2);
                case ADDRESS:
                case U4:
                    return in.unsigned(4);
                case ULEB:
                case ADD_ULEB:
                    return in.uleb();
                case SLEB:
                    return in.sleb();
                default:
                    return 0;
            }
        }

        private static int neededBy(int operation, int family, int operand) {
            switch (family) {
                case PUSHING:
                    return depthOfCopy(operation, operand) + 1;
                case CHANGING_TOP:
                    return 1;
                case JOINING:
                    return 2;
                case MOVING:
                    return operation == DROP ? 1 : operation == SWAP ? 2 : 3;
                case JUMPING:
                    return operation == JUMP ? 0 : 1;
                default:
                    return 0;
            }
        }

        /** How far below the top the number stands that comes again; -1 if none does. */
        private static int depthOfCopy(int operation, int operand) {
            switch (operation) {
                case AGAIN:
                    return 0;
                case SECOND_AGAIN:
                    return 1;
                case NTH_AGAIN:
                    return operand;
                default:
                    return -1;
            }
        }

        private int pushFor(int operation, int operand) {
            int depth = depthOfCopy(operation, operand);
            if (depth >= 0) {
                push(stack[height - 1 - depth]);
            } else if (isSmall(operation)) {
                push(operation - SMALL);
            } else if (operation == CFA) {
                push(cfa);
            } else if (isRegister(operation)) {
                int r = operation - REGISTER;
                if (!frame.knows(r)) {
                    return READ;
                }
                push(frame.values[r] + operand);
            } else {
                push(operand);
            }
            return DONE;
        }

        private int changeTop(int operation, int operand) {
            int number = stack[height - 1];
            switch (operation) {
                case LOAD:
                    if (!memory.has(number)) {
                        return READ;
                    }
                    number = memory.load(number);
                    break;
                case SIZE:
                    number = number < 0 ? -number : number;
                    break;
                case MINUS:
                    number = -number;
                    break;
                case TURN:
                    number = ~number;
                    break;
                default:
                    number += operand;
                    break;
            }
            stack[height - 1] = number;
            return DONE;
        }

        private int joinTwo(int operation) {
            int b = stack[height - 1];
            int a = stack[height - 2];
            if (b == 0 && (operation == DIVIDE || operation == REMAINDER)) {
                return DIVISION;
            }
            height--;
            stack[height - 1] = operation >= EQUAL ? compared(operation, a, b) : joined(operation, a, b);
            return DONE;
        }

        private static int joined(int operation, int a, int b) {
            switch (operation) {
                case AND:
                    return a & b;
                case DIVIDE:
                    return b == 0 ? 0 : a / b;
                case SUBTRACT:
                    return a - b;
                case REMAINDER:
                    return b == 0 ? 0 : a % b;
                case MULTIPLY:
                    return a * b;
                case OR:
                    return a | b;
                case ADD:
                    return a + b;
                case XOR:
                    return a ^ b;
                default:
                    return shifted(operation, a, b);
            }
        }

        private static int shifted(int operation, int a, int b) {
            if (b < 0 || b > 31) {
                return operation == DOWN_SIGNED && a < 0 ? -1 : 0;
            }
            switch (operation) {
                case UP:
                    return a << b;
                case DOWN:
                    return a >>> b;
                default:
                    return a >> b;
            }
        }

        private static int compared(int operation, int a, int b) {
            switch (operation) {
                case EQUAL:
                    return a == b ? 1 : 0;
                case NOT_BELOW:
                    return a >= b ? 1 : 0;
                case ABOVE:
                    return a > b ? 1 : 0;
                case NOT_ABOVE:
                    return a <= b ? 1 : 0;
                case BELOW:
                    return a < b ? 1 : 0;
                default:
                    return a != b ? 1 : 0;
            }
        }

        private int move(int operation) {
            int top = stack[height - 1];
            if (operation == DROP) {
                height--;
            } else if (operation == SWAP) {
                stack[height - 1] = stack[height - 2];
                stack[height - 2] = top;
            } else {
                stack[height - 1] = stack[height - 2];
                stack[height - 2] = stack[height - 3];
                stack[height - 3] = top;
            }
            return DONE;
        }

        private int jump(int operation, int distance) {
            if (operation == JUMP_UNLESS_0) {
                height--;
                if (stack[height] == 0) {
                    return DONE;
                }
            }
            int target = in.at + distance;
            if (target < begins || target > in.limit) {
                return BYTES;
            }
            in.at = target;
            return DONE;
        }
    }
}
