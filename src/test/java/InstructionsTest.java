/** What each instruction answers, and its flags, by values written out from the document. */
public final class InstructionsTest {
    private static final Check CHECK = new Check();
    private static final int N = 8;
    private static final int Z = 4;
    private static final int V = 2;
    private static final int C = 1;

    public static void main(String[] args) {
        twoOperands();
        addAndSubtract();
        oneOperand();
        withCarry();
        shiftsByOne();
        exchangeAndSign();
        products();
        quotients();
        moves();
        eitherOf();
        countingDown();
        branches();
        flagCodes();
        unknownCodes();
        CHECK.end();
    }

    /** One instruction with register 1 as first and register 0 as second operand. */
    private static void two(int op, int s, int d, int flags, int due, int dueFlags) {
        String what = Check.octal(op) + " of " + s + " and " + d + " with flags " + flags;
        WordGuest x = new WordGuest();
        x.poke(0, op * 010000 | 000100);
        x.put(0, d);
        x.put(1, s);
        x.flag(flags);
        CHECK.same(what, x.run(1), 0);
        CHECK.registers(what, x, due, s, 0, 0, 0, 0, 0, 2);
        CHECK.same(what + ": flags", x.flags(), dueFlags);
    }

    private static void twoOperands() {
        two(01, 0, 5, V, 0, Z);
        two(01, 0x8000, 5, V | C, 0x8000, N | C);
        two(01, 7, 5, 15, 7, C);
        two(011, 0x1280, 5, V | C, 0xFF80, N | C);
        two(011, 0x8000, 5, V, 0, Z);
        two(02, 5, 5, 15, 5, Z);
        two(02, 5, 6, 0, 6, N | C);
        two(02, 6, 5, 15, 5, 0);
        two(02, 0x8000, 1, 0, 1, V);
        two(02, 1, 0x8000, 0, 0x8000, N | V | C);
        two(02, 0x7FFF, 0xFFFF, 0, 0xFFFF, N | V | C);
        two(02, 0xFFFF, 0x7FFF, 0, 0x7FFF, N);
        two(012, 0x1180, 0x2201, 0, 0x2201, V);
        two(012, 0x1101, 0x2280, 0, 0x2280, N | V | C);
        two(012, 0x1155, 0x2255, 15, 0x2255, Z);
        two(012, 0x2200, 0x1101, 0, 0x1101, N | C);
        two(03, 0xF0F0, 0x0F0F, 15, 0x0F0F, Z | C);
        two(03, 0x8001, 0x8000, V, 0x8000, N);
        two(013, 0xFF01, 0xFF80, 0, 0xFF80, Z);
        two(013, 0xFF80, 0xFF80, V, 0xFF80, N);
        two(04, 0x00FF, 0x8181, V | C, 0x8100, N | C);
        two(04, 0xFFFF, 0x8181, V, 0, Z);
        two(014, 0x00FF, 0x8181, V, 0x8100, Z);
        two(014, 0x0001, 0x1281, V, 0x1280, N);
        two(05, 0x00F0, 0x0F00, 15, 0x0FF0, C);
        two(05, 0x8000, 1, V, 0x8001, N);
        two(05, 0, 0, 0, 0, Z);
        two(015, 0xFF80, 0x1201, V, 0x1281, N);
        two(015, 0xFF00, 0x1200, V, 0x1200, Z);
    }

    private static void addAndSubtract() {
        two(06, 1, 2, 15, 3, 0);
        two(06, 0x7FFF, 1, 0, 0x8000, N | V);
        two(06, 0x8000, 0x8000, 0, 0, Z | V | C);
        two(06, 0xFFFF, 1, 0, 0, Z | C);
        two(06, 0xFFFF, 0xFFFF, 0, 0xFFFE, N | C);
        two(06, 0x8000, 0x7FFF, 15, 0xFFFF, N);
        two(016, 1, 3, 15, 2, 0);
        two(016, 3, 1, 0, 0xFFFE, N | C);
        two(016, 1, 0x8000, 0, 0x7FFF, V);
        two(016, 0xFFFF, 0x7FFF, 0, 0x8000, N | V | C);
        two(016, 0x7FFF, 0xFFFF, 0, 0x8000, N);
        two(016, 9, 9, 15, 0, Z);
    }

    private static void one(int code, int before, int flags, int after, int dueFlags) {
        String what = Check.octal(code) + " of " + before + " with flags " + flags;
        WordGuest x = new WordGuest();
        x.poke(0, code);
        x.put(0, before);
        x.flag(flags);
        CHECK.same(what, x.run(1), 0);
        CHECK.registers(what, x, after, 0, 0, 0, 0, 0, 0, 2);
        CHECK.same(what + ": flags", x.flags(), dueFlags);
        inMemory(what + " in memory", code | 021, before, flags, after, dueFlags);
    }

    /** The same by way 2: what stands in a word of memory changes as a register does. */
    private static void inMemory(String what, int code, int before, int flags, int after, int dueFlags) {
        WordGuest x = new WordGuest();
        x.poke(0, code);
        x.poke(500, before);
        x.put(1, 500);
        x.flag(flags);
        CHECK.same(what, x.run(1), 0);
        CHECK.same(what + ": value", x.word(500), after);
        CHECK.same(what + ": register", x.register(1), code >= 0100000 ? 501 : 502);
        CHECK.same(what + ": flags", x.flags(), dueFlags);
    }

    private static void oneOperand() {
        one(005000, 0x1234, 15, 0, Z);
        one(0105000, 0x1234, 15, 0x1200, Z);
        one(005100, 0x1234, V, 0xEDCB, N | C);
        one(005100, 0xFFFF, 15, 0, Z | C);
        one(0105100, 0x00FF, N, 0, Z | C);
        one(005200, 0x7FFF, C, 0x8000, N | V | C);
        one(005200, 0xFFFF, V, 0, Z);
        one(005200, 0x8000, V | C, 0x8001, N | C);
        one(0105200, 0x127F, 0, 0x1280, N | V);
        one(0105200, 0x12FF, C, 0x1200, Z | C);
        one(0105200, 0x7FFF, 0, 0x7F00, Z);
        one(005300, 0x8000, C, 0x7FFF, V | C);
        one(005300, 0, 0, 0xFFFF, N);
        one(005300, 1, V, 0, Z);
        one(0105300, 0x1280, 0, 0x127F, V);
        one(0105300, 0x8000, 0, 0x80FF, N);
        one(005400, 0, 15, 0, Z);
        one(005400, 1, 0, 0xFFFF, N | C);
        one(005400, 0x8000, 0, 0x8000, N | V | C);
        one(005400, 0xFFFF, V, 1, C);
        one(0105400, 0x1280, 0, 0x1280, N | V | C);
        one(0105400, 0x1200, C, 0x1200, Z);
        one(005700, 0, 15, 0, Z);
        one(005700, 0x8000, 15, 0x8000, N);
        one(005700, 0x0080, 15, 0x0080, 0);
        one(0105700, 0x0080, 15, 0x0080, N);
        one(0105700, 0x8000, 15, 0x8000, Z);
    }

    private static void withCarry() {
        one(005500, 0x7FFF, C, 0x8000, N | V);
        one(005500, 0x7FFF, V, 0x7FFF, 0);
        one(005500, 0xFFFF, C, 0, Z | C);
        one(005500, 0xFFFF, V, 0xFFFF, N);
        one(005500, 5, V | C, 6, 0);
        one(005500, 0, V, 0, Z);
        one(0105500, 0x127F, C, 0x1280, N | V);
        one(0105500, 0x12FF, C, 0x1200, Z | C);
        one(0105500, 0x12FF, 0, 0x12FF, N);
        one(005600, 0x8000, C, 0x7FFF, V);
        one(005600, 0x8000, V, 0x8000, N);
        one(005600, 0, C, 0xFFFF, N | C);
        one(005600, 0, V, 0, Z);
        one(005600, 1, V | C, 0, Z);
        one(0105600, 0x1280, C, 0x127F, V);
        one(0105600, 0x1200, C, 0x12FF, N | C);
        one(0105600, 0x1280, 0, 0x1280, N);
    }

    private static void shiftsByOne() {
        one(006000, 1, 0, 0, Z | V | C);
        one(006000, 1, C, 0x8000, N | C);
        one(006000, 2, C, 0x8001, N | V);
        one(006000, 4, V, 2, 0);
        one(0106000, 0x1201, C, 0x1280, N | C);
        one(0106000, 0x1302, C, 0x1381, N | V);
        one(0106000, 0x1301, 0, 0x1300, Z | V | C);
        one(006100, 0x8000, 0, 0, Z | V | C);
        one(006100, 0x8000, C, 1, V | C);
        one(006100, 0x4000, 0, 0x8000, N | V);
        one(006100, 0xC000, C, 0x8001, N | C);
        one(0106100, 0x1280, C, 0x1201, V | C);
        one(0106100, 0x1240, 0, 0x1280, N | V);
        one(006200, 0x8001, 0, 0xC000, N | C);
        one(006200, 0x8000, C, 0xC000, N | V);
        one(006200, 1, 0, 0, Z | V | C);
        one(006200, 0xFFFF, 0, 0xFFFF, N | C);
        one(0106200, 0x0180, C, 0x01C0, N | V);
        one(0106200, 0x8101, 0, 0x8100, Z | V | C);
        one(006300, 0x8000, C, 0, Z | V | C);
        one(006300, 0x4000, C, 0x8000, N | V);
        one(006300, 0xC001, 0, 0x8002, N | C);
        one(006300, 1, 15, 2, 0);
        one(0106300, 0x1280, 0, 0x1200, Z | V | C);
        one(0106300, 0x12C1, 0, 0x1282, N | C);
    }

    private static void exchangeAndSign() {
        one(000300, 0x1280, 15, 0x8012, 0);
        one(000300, 0x8000, 15, 0x0080, N);
        one(000300, 0x0080, 15, 0x8000, Z);
        one(000300, 0, 0, 0, Z);
        one(006700, 0x1234, N | Z | V | C, 0xFFFF, N | C);
        one(006700, 0x1234, V | C, 0, Z | C);
        one(006700, 0x1234, 0, 0, Z);
        one(006700, 0x1234, N, 0xFFFF, N);
    }

    /** code with registers 0, 1, 2 and the operand in register 2. */
    private static void three(int code, int r0, int r1, int s, int flags, int due0, int due1, int dueFlags) {
        String what = Check.octal(code) + " of " + r0 + ", " + r1 + " by " + s + " with flags " + flags;
        WordGuest x = new WordGuest();
        x.poke(0, code);
        x.put(0, r0);
        x.put(1, r1);
        x.put(2, s);
        x.flag(flags);
        CHECK.same(what, x.run(1), 0);
        CHECK.registers(what, x, due0, due1, s & 65535, 0, 0, 0, 0, 2);
        CHECK.same(what + ": flags", x.flags(), dueFlags);
    }

    private static void products() {
        three(070002, 3, 9, 5, 15, 0, 15, 0);
        three(070002, 0, 9, 5, 15, 0, 0, Z);
        three(070002, -3, 9, 5, 15, 0xFFFF, 0xFFF1, N);
        three(070002, 0x8000, 9, 0x8000, 0, 0x4000, 0, C);
        three(070002, 0x8000, 9, 1, C, 0xFFFF, 0x8000, N);
        three(070002, 0x8000, 9, -1, 0, 0, 0x8000, C);
        three(070002, 181, 9, 181, C, 0, 32761, 0);
        three(070002, 0x7FFF, 9, 0x7FFF, 0, 0x3FFF, 1, C);
        three(070002, 0x7FFF, 9, 0x8000, 0, 0xC000, 0x8000, N | C);
        three(070102, 9, 3, 5, 15, 9, 15, 0);
        three(070102, 9, 0x100, 0x100, 0, 9, 0, C);
        three(070102, 9, 0x8000, 1554, 2, 9, 0, N | C);
        three(070102, 9, -3, -4, V, 9, 12, 0);
        WordGuest x = new WordGuest();
        x.poke(0, 070600);
        x.put(0, 3);
        x.put(6, 5);
        CHECK.same("product into 6 and 7", x.run(1), 0);
        CHECK.registers("product into 6 and 7", x, 3, 0, 0, 0, 0, 0, 0, 15);
    }

    private static void quotients() {
        three(071002, 0, 17, 5, 15, 3, 2, 0);
        three(071002, -1, -17, 5, 15, -3 & 65535, -2 & 65535, N);
        three(071002, 0, 17, -5, V, -3 & 65535, 2, N);
        three(071002, -1, -17, -5, C, 3, -2 & 65535, 0);
        three(071002, 0, 3, 5, 15, 0, 3, Z);
        three(071002, -1, -3 & 65535, 5, 15, 0, -3 & 65535, Z);
        three(071002, 0, 17, 0, 0, 0, 17, V | C);
        three(071002, 7, 17, 0, N | Z, 7, 17, N | Z | V | C);
        three(071002, 1, 0, 1, N | C, 1, 0, N | V);
        three(071002, 0, 0x7FFF, 1, 0, 0x7FFF, 0, 0);
        three(071002, 0, 0x8000, 1, Z | C, 0, 0x8000, Z | V);
        three(071002, 0, 0x8000, -1, 0, 0x8000, 0, N);
        three(071002, 0xFFFF, 0x8000, 1, 0, 0x8000, 0, N);
        three(071002, 0xFFFF, 0x7FFF, 1, C, 0xFFFF, 0x7FFF, V);
        three(071002, 0x8000, 0, -1, C, 0x8000, 0, V);
        three(071002, 0x8000, 0, 1, 0, 0x8000, 0, V);
        three(071002, 0x3FFF, 0x8000, 0x8000, 0, 0x8001, 0, N);
        three(071002, 0x4000, 0x7FFF, 0x8000, 0, 0x8000, 0x7FFF, N);
        three(071002, 0x4000, 0x8000, 0x8000, 0, 0x4000, 0x8000, V);
        WordGuest x = new WordGuest();
        x.poke(0, 071022);
        x.put(1, 6);
        x.put(2, 500);
        CHECK.same("quotient by 0 that a growing register tells", x.run(1), 0);
        CHECK.registers("quotient by 0 that a growing register tells", x, 0, 6, 502, 0, 0, 0, 0, 2);
    }

    private static void moves() {
        three(072002, 0x1234, 0, 0, 15, 0x1234, 0, 0);
        three(072002, 0x1234, 0, 4, 15, 0x2340, 0, C);
        three(072002, 0x1234, 0, 0xFFC4, 15, 0x2340, 0, C);
        three(072002, 0x4000, 0, 1, 0, 0x8000, 0, N | V);
        three(072002, 0x8000, 0, 1, 0, 0, 0, Z | V | C);
        three(072002, 1, 0, 15, 0, 0x8000, 0, N | V);
        three(072002, 1, 0, 16, 0, 0, 0, Z | C);
        three(072002, 0x8001, 0, 16, 0, 0, 0, Z | V | C);
        three(072002, 0xFFFF, 0, 17, C, 0, 0, Z | V);
        three(072002, 0x7FFF, 0, 31, C, 0, 0, Z);
        three(072002, 0xFFFF, 0, 31, C, 0, 0, Z | V);
        three(072002, 0x8000, 0, 32, 0, 0xFFFF, 0, N | C);
        three(072002, 0x7FFF, 0, 32, 15, 0, 0, Z);
        three(072002, 0x8000, 0, 33, 0, 0xFFFF, 0, N | C);
        three(072002, 0x8001, 0, -1, 0, 0xC000, 0, N | C);
        three(072002, 0x8002, 0, 63, C, 0xC001, 0, N);
        three(072002, 0x4000, 0, -15, 0, 0, 0, Z | C);
        three(072002, 0x4000, 0, -16, C, 0, 0, Z);
        three(072002, 0x8000, 0, -15, C, 0xFFFF, 0, N);
        three(072002, 0x8000, 0, -16, 0, 0xFFFF, 0, N | C);
        three(072002, 0x5555, 0, 2, V, 0x5554, 0, C);
        three(072002, 0x8000, 0, 0, C, 0x8000, 0, N);
        three(072102, 7, 3, 2, 0, 7, 12, 0);
        WordGuest x = new WordGuest();
        x.poke(0, 072022);
        x.poke(500, 3);
        x.put(0, 1);
        x.put(2, 500);
        CHECK.same("moved by a word of memory", x.run(1), 0);
        CHECK.registers("moved by a word of memory", x, 8, 0, 502);
    }

    private static void eitherOf() {
        WordGuest x = new WordGuest();
        Check.pokeAll(x, 0, 074112, 074101, 074112);
        x.poke(500, 0xFF00);
        x.put(1, 0x0FF0);
        x.put(2, 500);
        x.flag(15);
        CHECK.same("either", x.run(1), 0);
        CHECK.same("either: written", x.word(500), 0xF0F0);
        CHECK.same("either: flags", x.flags(), N | C);
        CHECK.same("either of the same", x.run(1), 0);
        CHECK.registers("either of the same", x, 0, 0, 500);
        CHECK.same("either of the same: flags", x.flags(), Z | C);
        x.flag(V);
        x.poke(500, 0x10);
        CHECK.same("either with 0", x.run(1), 0);
        CHECK.same("either with 0: flags", x.flags(), 0);
        CHECK.same("either with 0: written", x.word(500), 0x10);
        Check.pokeAll(x, 6, 074322);
        x.put(3, 0x0080);
        x.poke(500, 0);
        CHECK.same("either behind a register that grows", x.run(1), 0);
        CHECK.registers("either behind a register that grows", x, 0, 0, 502, 0x0080);
        CHECK.same("either is of words", x.flags(), 0);
    }

    private static void down(int r, int before, int k, int after, int place) {
        String what = "077 of " + before + " by " + k;
        WordGuest x = new WordGuest();
        x.poke(1000, 077000 | r << 6 | k);
        x.put(7, 1000);
        x.put(r, r == 7 ? 1000 : before);
        x.flag(9);
        CHECK.same(what, x.run(1), 0);
        CHECK.same(what + ": register", x.register(r), after);
        CHECK.same(what + ": place", x.register(7), place);
        CHECK.same(what + ": flags", x.flags(), 9);
    }

    private static void countingDown() {
        down(3, 2, 5, 1, 992);
        down(3, 1, 5, 0, 1002);
        down(3, 0, 5, 65535, 992);
        down(0, 9, 0, 8, 1002);
        down(5, 9, 63, 8, 1002 - 126);
        down(7, 0, 1, 999, 999);
    }

    /** The document's words of branches, each with the condition that it tells, as flags 0 to 15. */
    private static boolean goes(int code, int flags) {
        boolean n = (flags & N) != 0;
        boolean z = (flags & Z) != 0;
        boolean v = (flags & V) != 0;
        boolean c = (flags & C) != 0;
        switch (code) {
            case 0000400: return true;
            case 0001000: return !z;
            case 0001400: return z;
            case 0002000: return n == v;
            case 0002400: return n != v;
            case 0003000: return !z && n == v;
            case 0003400: return z || n != v;
            case 0100000: return !n;
            case 0100400: return n;
            case 0101000: return !c && !z;
            case 0101400: return c || z;
            case 0102000: return !v;
            case 0102400: return v;
            case 0103000: return !c;
            default: return c;
        }
    }

    private static void branches() {
        int[] codes = {0000400, 0001000, 0001400, 0002000, 0002400, 0003000, 0003400, 0100000, 0100400,
            0101000, 0101400, 0102000, 0102400, 0103000, 0103400};
        int[] bytes = {0, 1, 0177, 0200, 0377};
        for (int code : codes) {
            for (int flags = 0; flags < 16; flags++) {
                WordGuest x = new WordGuest();
                for (int b : bytes) {
                    String what = "branch " + Check.octal(code | b) + " with flags " + flags;
                    x.poke(1000, code | b);
                    x.put(7, 1000);
                    x.flag(flags);
                    CHECK.same(what, x.run(1), 0);
                    CHECK.same(what + ": place", x.register(7), goes(code, flags) ? 1002 + 2 * (byte) b : 1002);
                    CHECK.same(what + ": flags", x.flags(), flags);
                }
            }
        }
    }

    private static void flagCodes() {
        for (int bits = 0; bits < 16; bits++) {
            WordGuest x = new WordGuest();
            for (int flags = 0; flags < 16; flags += 3) {
                Check.pokeAll(x, 0, 000240 | bits, 000260 | bits);
                x.put(7, 0);
                x.flag(flags);
                CHECK.same("flags to 0", x.run(1), 0);
                CHECK.same("flags " + bits + " of " + flags + " to 0", x.flags(), flags & ~bits);
                x.flag(flags);
                CHECK.same("flags to 1", x.run(1), 0);
                CHECK.same("flags " + bits + " of " + flags + " to 1", x.flags(), flags | bits);
            }
        }
    }

    /** From and to (both included): all codes that the document does not tell. */
    private static final int[] UNKNOWN = {
        0000001, 0000107, // jump by way 0 among them
        0000210, 0000237, 0006400, 0006677, 0007000, 0007777,
        0073000, 0073777, 0075000, 0076777,
        0104000, 0104777, 0106400, 0107777, 0170000, 0177777};

    private static boolean isUnknown(int code) {
        for (int i = 0; i < UNKNOWN.length; i += 2) {
            if (code >= UNKNOWN[i] && code <= UNKNOWN[i + 1]) {
                return true;
            }
        }
        boolean callOfRegister = (code & 0177070) == 0004000;
        boolean quotientIntoOdd = (code & 0177100) == 0071100;
        return callOfRegister || quotientIntoOdd;
    }

    private static void unknownCodes() {
        WordGuest x = new WordGuest();
        for (int code = 0; code < 65536; code++) {
            if (code % 150 == 0) {
                x = new WordGuest();
            }
            x.poke(1000, code);
            x.put(7, 1000);
            boolean unknown = x.run(1) == 4;
            CHECK.same("unknown is " + Check.octal(code), unknown, isUnknown(code));
        }
    }
}
