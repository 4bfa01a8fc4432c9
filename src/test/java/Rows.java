/**
 * Rows of values with what is due of them, each done in every form that it has: in registers and
 * in memory, with all flags that may stand before it, and as a byte as well as a word.
 */
final class Rows {
    private static final int BYTES = 0100000;
    private static final int MOVE = 01;
    /** What stands in the other byte of a word must count for nothing. */
    private static final int[] OTHER_BYTES = {0x00, 0xFF, 0x6A};

    private final Check check;

    Rows(Check check) {
        this.check = check;
    }

    /** The byte that has the word's four highest and four lowest bits: edges stay edges. */
    private static int asByte(int word) {
        return word >> 8 & 0xF0 | word & 0x0F;
    }

    private static int withSign(int b) {
        return (byte) b & 0xFFFF;
    }

    // One operand; head is the instruction without its six bits.

    void one(int head, String before, int x, int due, String flagsDue) {
        oneOfWords(head, before, x, due, flagsDue);
        oneOfBytes(head, before, asByte(x), asByte(due), flagsDue);
    }

    void oneOfWords(int head, String before, int x, int due, String flagsDue) {
        for (int flags = 0; flags < 16; flags++) {
            if (Signs.fit(before, flags)) {
                inRegister(head << 6, flags, x, due, flagsDue);
                inMemory(head << 6, flags, 500, x, due, flagsDue);
            }
        }
    }

    void oneOfBytes(int head, String before, int x, int due, String flagsDue) {
        int code = BYTES | head << 6;
        for (int flags = 0; flags < 16; flags++) {
            for (int other : OTHER_BYTES) {
                if (Signs.fit(before, flags)) {
                    inRegister(code, flags, other << 8 | x, other << 8 | due, flagsDue);
                    inMemory(code, flags, 500, other << 8 | x, other << 8 | due, flagsDue);
                    inMemory(code, flags, 501, x << 8 | other, due << 8 | other, flagsDue);
                }
            }
        }
    }

    private Scene scene(int code, int flags, String values) {
        String what = Check.octal(code) + " of " + values + " with flags " + flags;
        return new Scene(check, what).code(100, code).flags(flags);
    }

    private void inRegister(int code, int flags, int x, int due, String flagsDue) {
        scene(code, flags, hex(x)).register(0, x)
                .thenRegister(0, due).thenFlags(Signs.due(flagsDue, flags)).done(102);
    }

    private void inMemory(int code, int flags, int place, int x, int due, String flagsDue) {
        scene(code | 011, flags, hex(x) + " at " + place).register(1, place).words(place, x)
                .thenWords(place, due).thenFlags(Signs.due(flagsDue, flags)).done(102);
    }

    // Two operands; op is the instruction without its twelve bits.

    /** s and d, what comes to be in d, and the flags. */
    void two(int op, int s, int d, int due, String flagsDue) {
        twoOfWords(op, s, d, due, flagsDue);
        twoOfBytes(op, asByte(s), asByte(d), asByte(due), flagsDue);
    }

    void twoOfWords(int op, int s, int d, int due, String flagsDue) {
        for (int flags = 0; flags < 16; flags++) {
            fromRegister(op << 12, flags, s, d, due, flagsDue);
            fromMemory(op << 12, flags, 500, s, 600, d, due, flagsDue);
        }
    }

    void twoOfBytes(int op, int s, int d, int due, String flagsDue) {
        int code = BYTES | op << 12;
        for (int flags = 0; flags < 16; flags++) {
            for (int other : OTHER_BYTES) {
                int wholeDue = op == MOVE ? withSign(due) : other << 8 | due;
                fromRegister(code, flags, (other ^ 0xFF) << 8 | s, other << 8 | d, wholeDue, flagsDue);
                fromMemory(code, flags, 500, (other ^ 0xFF) << 8 | s, 601, d << 8 | other, due << 8 | other, flagsDue);
                fromMemory(code, flags, 501, s << 8 | other ^ 0xFF, 600, other << 8 | d, other << 8 | due, flagsDue);
            }
        }
    }

    private void fromRegister(int code, int flags, int s, int d, int due, String flagsDue) {
        scene(code | 0100, flags, hex(s) + " and " + hex(d)).register(1, s).register(0, d)
                .thenRegister(0, due).thenFlags(Signs.due(flagsDue, flags)).done(102);
    }

    private void fromMemory(int code, int flags, int sPlace, int s, int dPlace, int d, int due, String flagsDue) {
        scene(code | 01110, flags, hex(s) + " at " + sPlace + " and " + hex(d) + " at " + dPlace)
                .register(1, sPlace).words(sPlace, s).register(0, dPlace).words(dPlace, d)
                .thenWords(dPlace, due).thenFlags(Signs.due(flagsDue, flags)).done(102);
    }

    private static String hex(int v) {
        return "0x" + Integer.toHexString(v);
    }
}
