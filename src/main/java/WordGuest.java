import java.util.Arrays;

/**
 * A machine of words of sixteen bits with eight registers. The face looks at arguments;
 * the classes inside hold the memory, the registers with the operands' ways, the flags,
 * and the instructions.
 */
public final class WordGuest {
    public static final int NONE = -1;

    private static final int BYTES = 4096;
    private static final int WORDS = BYTES / 2;
    private static final int PORT = 4094;
    private static final int MOST_OUTPUTS = 400;
    private static final int MOST_STEPS = 5000;

    private static final int REGISTERS = 8;
    private static final int STACK = 6;
    private static final int PLACE = 7;

    /** An operand's size is told by its ones, so that it serves as a mask as well. */
    private static final int BYTE = 0xFF;
    private static final int WORD = 0xFFFF;

    private static final int BYTE_SIGN = 0x80;
    private static final int WORD_SIGN = 0x8000;

    /** How an instruction ended, and what run answers for it. */
    private static final int DONE = 0;
    private static final int HALTED = 1;
    private static final int ODD = 2;
    private static final int BEYOND = 3;
    private static final int UNKNOWN = 4;

    private static final int HALT = 0;

    private final Memory memory = new Memory();
    private final Processor processor = new Processor(memory);
    private int latestSteps;

    public WordGuest() {
    }

    public int load(int place, int a, int b, int c, int d, int e) throws IndexOutOfBoundsException {
        needWordAt(place);
        return memory.setPair(place, a)
                + memory.setPair(place + 4, b)
                + memory.setPair(place + 8, c)
                + memory.setPair(place + 12, d)
                + memory.setPair(place + 16, e);
    }

    public int word(int place) throws IndexOutOfBoundsException {
        needWordAt(place);
        return memory.valueAt(place, WORD);
    }

    public boolean poke(int place, int v) throws IndexOutOfBoundsException {
        needWordAt(place);
        int before = memory.valueAt(place, WORD);
        memory.setWord(place, v);
        return before != (v & WORD);
    }

    public int register(int k) throws IndexOutOfBoundsException {
        needRegister(k);
        return processor.parts.registers[k];
    }

    public void put(int k, int v) throws IndexOutOfBoundsException {
        needRegister(k);
        processor.parts.registers[k] = v & WORD;
    }

    public int flags() {
        return processor.conditions.number();
    }

    public void flag(int v) {
        processor.conditions.become(v);
    }

    public int run(int n) throws IllegalArgumentException {
        if (n < 0 || n > MOST_STEPS) {
            throw new IllegalArgumentException();
        }
        latestSteps = 0;
        for (int i = 0; i < n; i++) {
            int ending = processor.step();
            if (ending == DONE || ending == HALTED) {
                latestSteps++;
            }
            if (ending != DONE) {
                return ending;
            }
        }
        return DONE;
    }

    public int steps() {
        return latestSteps;
    }

    public int output(int k) throws IndexOutOfBoundsException {
        if (k < 0 || k >= memory.toldCount) {
            throw new IndexOutOfBoundsException();
        }
        return memory.told[k];
    }

    public int outputs() {
        return memory.toldCount;
    }

    public void clear() {
        memory.empty();
        processor.empty();
        latestSteps = 0;
    }

    private void needWordAt(int place) {
        if (memory.faultAt(place, WORD) != DONE) {
            throw new IndexOutOfBoundsException();
        }
    }

    private void needRegister(int k) {
        if (k < 0 || k >= REGISTERS) {
            throw new IndexOutOfBoundsException();
        }
    }

    private static int signOf(int size) {
        return size == BYTE ? BYTE_SIGN : WORD_SIGN;
    }

    /** The number that a word or byte is when its highest bit is a sign. */
    private static int signed(int value, int size) {
        int sign = signOf(size);
        return ((value & size) ^ sign) - sign;
    }

    /** Words and bytes by their places, and what was told at the port. */
    private static final class Memory {
        /** Also the mask that keeps every index inside, whatever the place. */
        private static final int LAST_WORD = WORDS - 1;

        private final int[] words = new int[WORDS];
        private final int[] told = new int[MOST_OUTPUTS];
        private int toldCount;

        int faultAt(int place, int size) {
            if (size == WORD && (place & 1) != 0) {
                return ODD;
            }
            return place < 0 || place >= BYTES ? BEYOND : DONE;
        }

        int valueAt(int place, int size) {
            int up = (place & 1) * 8;
            return (words[(place >> 1) & LAST_WORD] >> up) & size;
        }

        void setWord(int place, int v) {
            words[(place >> 1) & LAST_WORD] = v & WORD;
        }

        /** Two words, the higher one first: how many of them have a place. */
        int setPair(int place, int pair) {
            return setIfThere(place, pair >>> 16) + setIfThere(place + 2, pair);
        }

        /** A write by an instruction: only these are told at the port. */
        void write(int place, int size, int v) {
            int k = (place >> 1) & LAST_WORD;
            int up = (place & 1) * 8;
            words[k] = (words[k] & ~(size << up)) | ((v & size) << up);
            if (place == PORT && toldCount < MOST_OUTPUTS) {
                told[toldCount] = v & size;
                toldCount++;
            }
        }

        void empty() {
            Arrays.fill(words, 0);
            toldCount = 0;
        }

        private int setIfThere(int place, int v) {
            if (faultAt(place, WORD) != DONE) {
                return 0;
            }
            setWord(place, v);
            return 1;
        }
    }

    /** N, Z, V and C. */
    private static final class Flags {
        private boolean n;
        private boolean z;
        private boolean v;
        private boolean c;

        int number() {
            return (n ? 8 : 0) | (z ? 4 : 0) | (v ? 2 : 0) | (c ? 1 : 0);
        }

        void become(int bits) {
            n = (bits & 8) != 0;
            z = (bits & 4) != 0;
            v = (bits & 2) != 0;
            c = (bits & 1) != 0;
        }

        void setByResult(int result, int size) {
            n = (result & signOf(size)) != 0;
            z = (result & size) == 0;
        }

        /** N is not V: below, as numbers with signs. */
        boolean below() {
            return n != v;
        }
    }

    /**
     * The registers, and the operands' ways through them into memory. The first fault of an
     * instruction is kept here; from then on reads answer 0 and nothing is written, so that
     * an instruction may go on to its end and be taken back as a whole.
     */
    private static final class Parts {
        /** An operand that stands in register r is at IN_REGISTER + r, above all places. */
        private static final int IN_REGISTER = 0x10000;

        private final Memory memory;
        private final int[] registers = new int[REGISTERS];
        private final int[] registersBefore = new int[REGISTERS];
        private int fault;

        Parts(Memory memory) {
            this.memory = memory;
        }

        void begin() {
            System.arraycopy(registers, 0, registersBefore, 0, REGISTERS);
            fault = DONE;
        }

        void takeBack() {
            System.arraycopy(registersBefore, 0, registers, 0, REGISTERS);
        }

        void empty() {
            Arrays.fill(registers, 0);
        }

        /** Where the operand of these six bits (higher ones do not count) is. */
        int locate(int bits, int size) {
            int r = bits & 7;
            switch ((bits >> 3) & 7) {
                case 0:
                    return IN_REGISTER + r;
                case 1:
                    return registers[r];
                case 2:
                    return grow(r, strideOf(r, size));
                case 3:
                    return fetch(grow(r, 2), WORD);
                case 4:
                    return shrink(r, strideOf(r, size));
                case 5:
                    return fetch(shrink(r, 2), WORD);
                case 6:
                    return fromRegister(r, fetch(grow(PLACE, 2), WORD));
                default:
                    return fetch(fromRegister(r, fetch(grow(PLACE, 2), WORD)), WORD);
            }
        }

        int fetch(int where, int size) {
            if (where >= IN_REGISTER) {
                return registers[where & 7] & size;
            }
            if (fault == DONE) {
                fault = memory.faultAt(where, size);
            }
            return fault == DONE ? memory.valueAt(where, size) : 0;
        }

        void store(int where, int size, int v) {
            if (where >= IN_REGISTER) {
                int r = where & 7;
                registers[r] = (registers[r] & ~size) | (v & size);
                return;
            }
            if (fault == DONE) {
                fault = memory.faultAt(where, size);
            }
            if (fault == DONE) {
                memory.write(where, size, v);
            }
        }

        /** As store, but a byte fills a whole register with its sign. */
        void storeMoved(int where, int size, int v) {
            if (where >= IN_REGISTER && size == BYTE) {
                registers[where & 7] = signed(v, BYTE) & WORD;
            } else {
                store(where, size, v);
            }
        }

        /** The word at PLACE, which goes on. */
        int takeNext() {
            return fetch(grow(PLACE, 2), WORD);
        }

        void push(int v) {
            store(shrink(STACK, 2), WORD, v);
        }

        int pop() {
            return fetch(grow(STACK, 2), WORD);
        }

        /** PLACE goes on by a number of words, which may be below 0. */
        void goOn(int words) {
            registers[PLACE] = (registers[PLACE] + 2 * words) & WORD;
        }

        private int grow(int r, int by) {
            int before = registers[r];
            registers[r] = (before + by) & WORD;
            return before;
        }

        private int shrink(int r, int by) {
            registers[r] = (registers[r] - by) & WORD;
            return registers[r];
        }

        private int fromRegister(int r, int distance) {
            return (registers[r] + distance) & WORD;
        }

        /** The stack and PLACE stay even also among bytes. */
        private static int strideOf(int r, int size) {
            return size == WORD || r == STACK || r == PLACE ? 2 : 1;
        }
    }

    /** The instructions. Numbers of instructions are octal, as the document tells them. */
    private static final class Processor {
        private final Parts parts;
        private final Flags conditions = new Flags();

        Processor(Memory memory) {
            parts = new Parts(memory);
        }

        void empty() {
            parts.empty();
            conditions.become(0);
        }

        int step() {
            parts.begin();
            int flagsBefore = conditions.number();
            int code = parts.takeNext();
            if (parts.fault == DONE) {
                if (code == HALT) {
                    return HALTED;
                }
                int kind = (code >> 12) & 7;
                if (kind == 0) {
                    performByHead(code);
                } else if (kind == 6) {
                    addOrSubtract(code);
                } else if (kind == 7) {
                    performWithRegister(code);
                } else {
                    performTwo(code, kind);
                }
            }
            if (parts.fault != DONE) {
                parts.takeBack();
                conditions.become(flagsBefore);
            }
            return parts.fault;
        }

        private void refuse() {
            parts.fault = UNKNOWN;
        }

        private static boolean hasHighestBit(int code) {
            return (code & WORD_SIGN) != 0;
        }

        private static int sizeIn(int code) {
            return hasHighestBit(code) ? BYTE : WORD;
        }

        // Two operands.

        private void performTwo(int code, int kind) {
            int size = sizeIn(code);
            int s = parts.fetch(parts.locate(code >> 6, size), size);
            int where = parts.locate(code, size);
            int d = parts.fetch(where, size);
            if (kind == 2) {
                setByDifference(s, d, size);
                return;
            }
            int result = combine(kind, s, d);
            conditions.setByResult(result, size);
            conditions.v = false;
            if (kind == 1) {
                parts.storeMoved(where, size, result);
            } else if (kind != 3) {
                parts.store(where, size, result);
            }
        }

        private static int combine(int kind, int s, int d) {
            switch (kind) {
                case 1:
                    return s;
                case 3:
                    return s & d;
                case 4:
                    return d & ~s;
                default:
                    return s | d;
            }
        }

        private void addOrSubtract(int code) {
            int s = parts.fetch(parts.locate(code >> 6, WORD), WORD);
            int where = parts.locate(code, WORD);
            int d = parts.fetch(where, WORD);
            int result;
            if (hasHighestBit(code)) {
                result = (d - s) & WORD;
                setByDifference(d, s, WORD);
            } else {
                result = (s + d) & WORD;
                conditions.setByResult(result, WORD);
                conditions.v = (~(s ^ d) & (s ^ result) & WORD_SIGN) != 0;
                conditions.c = s + d > WORD;
            }
            parts.store(where, WORD, result);
        }

        private void setByDifference(int from, int taken, int size) {
            int result = (from - taken) & size;
            conditions.setByResult(result, size);
            conditions.v = ((from ^ taken) & ~(result ^ taken) & signOf(size)) != 0;
            conditions.c = from < taken;
        }

        // Codes whose second digit is 0: told apart by all bits above the lowest six.

        private void performByHead(int code) {
            int head = (code >> 6) & 077;
            boolean high = hasHighestBit(code);
            if (head >= 050 && head <= 063) {
                performOne(code, head);
            } else if (head < 040 && (high || head >= 04)) {
                branch(code);
            } else if (high) {
                refuse();
            } else if (head >= 040 && head < 050) {
                callPart(code);
            } else if (head == 01) {
                jump(code);
            } else if (head == 02) {
                returnOrSetFlags(code);
            } else if (head == 03) {
                exchangeBytes(code);
            } else if (head == 067) {
                spreadSign(code);
            } else {
                refuse();
            }
        }

        // One operand.

        private void performOne(int code, int head) {
            int size = sizeIn(code);
            int where = parts.locate(code, size);
            int x = parts.fetch(where, size);
            int result;
            if (head < 060) {
                result = count(head, x, size);
                conditions.setByResult(result, size);
            } else {
                result = shiftByOne(head, x, size);
                conditions.setByResult(result, size);
                conditions.v = conditions.n != conditions.c;
            }
            boolean onlyTested = head == 057;
            if (!onlyTested) {
                parts.store(where, size, result);
            }
        }

        private int count(int head, int x, int size) {
            switch (head) {
                case 050:
                    return withoutOverflow(0, false);
                case 051:
                    return withoutOverflow(~x & size, true);
                case 052:
                    return oneMore(x, size);
                case 053:
                    return oneLess(x, size);
                case 054:
                    return minus(x, size);
                case 055:
                    return carryMore(x, size);
                case 056:
                    return carryLess(x, size);
                default:
                    return withoutOverflow(x, false);
            }
        }

        private int withoutOverflow(int result, boolean carry) {
            conditions.v = false;
            conditions.c = carry;
            return result;
        }

        private int oneMore(int x, int size) {
            int result = (x + 1) & size;
            conditions.v = result == signOf(size);
            return result;
        }

        private int oneLess(int x, int size) {
            int result = (x - 1) & size;
            conditions.v = result == signOf(size) - 1;
            return result;
        }

        private int minus(int x, int size) {
            int result = -x & size;
            conditions.v = result == signOf(size);
            conditions.c = result != 0;
            return result;
        }

        private int carryMore(int x, int size) {
            if (!conditions.c) {
                conditions.v = false;
                return x;
            }
            conditions.v = x == signOf(size) - 1;
            conditions.c = x == size;
            return (x + 1) & size;
        }

        private int carryLess(int x, int size) {
            if (!conditions.c) {
                conditions.v = false;
                return x;
            }
            conditions.v = x == signOf(size);
            conditions.c = x == 0;
            return (x - 1) & size;
        }

        private int shiftByOne(int head, int x, int size) {
            int sign = signOf(size);
            boolean carry = conditions.c;
            boolean up = head == 061 || head == 063;
            conditions.c = (x & (up ? sign : 1)) != 0;
            switch (head) {
                case 060:
                    return (x >> 1) | (carry ? sign : 0);
                case 061:
                    return ((x << 1) & size) | (carry ? 1 : 0);
                case 062:
                    return (x >> 1) | (x & sign);
                default:
                    return (x << 1) & size;
            }
        }

        private void exchangeBytes(int code) {
            int where = parts.locate(code, WORD);
            int x = parts.fetch(where, WORD);
            int result = ((x << 8) | (x >> 8)) & WORD;
            conditions.setByResult(result, BYTE);
            conditions.v = false;
            conditions.c = false;
            parts.store(where, WORD, result);
        }

        private void spreadSign(int code) {
            int where = parts.locate(code, WORD);
            int result = conditions.n ? WORD : 0;
            conditions.z = result == 0;
            conditions.v = false;
            parts.store(where, WORD, result);
        }

        // A register and an operand.

        private void performWithRegister(int code) {
            if (hasHighestBit(code)) {
                refuse();
                return;
            }
            int r = (code >> 6) & 7;
            switch ((code >> 9) & 7) {
                case 0:
                    multiply(r, code);
                    break;
                case 1:
                    divide(r, code);
                    break;
                case 2:
                    shift(r, code);
                    break;
                case 4:
                    exclude(r, code);
                    break;
                case 7:
                    countDown(r, code & 077);
                    break;
                default:
                    refuse();
                    break;
            }
        }

        private void multiply(int r, int code) {
            int s = signed(parts.fetch(parts.locate(code, WORD), WORD), WORD);
            int product = s * signed(parts.registers[r], WORD);
            conditions.n = product < 0;
            conditions.z = product == 0;
            conditions.v = false;
            conditions.c = !fitsWord(product);
            if ((r & 1) == 0) {
                parts.registers[r] = (product >> 16) & WORD;
            }
            parts.registers[r | 1] = product & WORD;
        }

        private void divide(int r, int code) {
            if ((r & 1) != 0) {
                refuse();
                return;
            }
            int s = signed(parts.fetch(parts.locate(code, WORD), WORD), WORD);
            if (s == 0) {
                conditions.v = true;
                conditions.c = true;
                return;
            }
            // long, for the least number by -1 has no quotient among ints
            long number = (parts.registers[r] << 16) | parts.registers[r | 1];
            long quotient = number / s;
            conditions.c = false;
            conditions.v = !fitsWord(quotient);
            if (conditions.v) {
                return;
            }
            conditions.n = quotient < 0;
            conditions.z = quotient == 0;
            parts.registers[r] = (int) (quotient & WORD);
            parts.registers[r | 1] = (int) (number % s & WORD);
        }

        private static boolean fitsWord(long number) {
            return number >= -WORD_SIGN && number < WORD_SIGN;
        }

        private void shift(int r, int code) {
            int six = parts.fetch(parts.locate(code, WORD), WORD) & 077;
            int x = parts.registers[r];
            // long, for distances of 31 and 32 lose bits among ints
            long number = signed(x, WORD);
            long moved;
            if (six < 040) {
                moved = number << six;
                conditions.c = six > 0 && (moved >> 16 & 1) != 0;
            } else {
                int down = 0100 - six;
                moved = number >> down;
                conditions.c = (number >> (down - 1) & 1) != 0;
            }
            int result = (int) (moved & WORD);
            conditions.setByResult(result, WORD);
            conditions.v = ((x ^ result) & WORD_SIGN) != 0;
            parts.registers[r] = result;
        }

        private void exclude(int r, int code) {
            int where = parts.locate(code, WORD);
            int result = parts.fetch(where, WORD) ^ parts.registers[r];
            conditions.setByResult(result, WORD);
            conditions.v = false;
            parts.store(where, WORD, result);
        }

        private void countDown(int r, int back) {
            parts.registers[r] = (parts.registers[r] - 1) & WORD;
            if (parts.registers[r] != 0) {
                parts.goOn(-back);
            }
        }

        // Other ways for PLACE.

        private void branch(int code) {
            if (isMet((hasHighestBit(code) ? 8 : 0) | (code >> 8 & 7))) {
                parts.goOn(signed(code, BYTE));
            }
        }

        /** Conditions stand in pairs: from 2 on, an odd one is what the even one before it is not. */
        private boolean isMet(int condition) {
            boolean odd = (condition & 1) != 0;
            switch (condition >> 1) {
                case 0:
                    return true;
                case 1:
                    return conditions.z == odd;
                case 2:
                    return conditions.below() == odd;
                case 3:
                    return (conditions.z || conditions.below()) == odd;
                case 4:
                    return conditions.n == odd;
                case 5:
                    return (conditions.c || conditions.z) == odd;
                case 6:
                    return conditions.v == odd;
                default:
                    return conditions.c == odd;
            }
        }

        /** A register is no place to go to. */
        private static boolean isRegisterWay(int code) {
            return (code & 070) == 0;
        }

        private void jump(int code) {
            if (isRegisterWay(code)) {
                refuse();
                return;
            }
            parts.registers[PLACE] = parts.locate(code, WORD);
        }

        private void callPart(int code) {
            if (isRegisterWay(code)) {
                refuse();
                return;
            }
            int r = (code >> 6) & 7;
            int target = parts.locate(code, WORD);
            parts.push(parts.registers[r]);
            parts.registers[r] = parts.registers[PLACE];
            parts.registers[PLACE] = target;
        }

        private void returnOrSetFlags(int code) {
            int low = code & 077;
            int chosen = code & 017;
            if (low < 010) {
                parts.registers[PLACE] = parts.registers[low];
                parts.registers[low] = parts.pop();
            } else if (low < 040) {
                refuse();
            } else if (low < 060) {
                conditions.become(conditions.number() & ~chosen);
            } else {
                conditions.become(conditions.number() | chosen);
            }
        }
    }
}
