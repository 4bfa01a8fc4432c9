/** '3 INSTRUCTIONS', those of two operands: 01 to 06 and 016, of words and bytes, each flag where it turns. */
public final class TwoOperandsTest {
    private static final Check CHECK = new Check();
    private static final Rows ROWS = new Rows(CHECK);
    private static final String SECTION = "3 INSTRUCTIONS";
    private static final int MOVE = 01;
    private static final int COMPARE = 02;
    private static final int TEST_BITS = 03;
    private static final int WITHOUT = 04;
    private static final int OR = 05;
    private static final int ADD = 06;
    private static final int SUBTRACT = 016;

    public static void main(String[] args) {
        flagsByWhatComes();
        flagsThatAreNotTold();
        move();
        moveWithin();
        compareOverflow();
        compareBelow();
        testBits();
        without();
        or();
        ofBytes();
        addOverflow();
        addBeyond();
        subtractOverflow();
        subtractBelow();
        noBytesOfAddAndSubtract();
        CHECK.end();
    }

    private static void flagsByWhatComes() {
        CHECK.sentence(SECTION, "N and Z by what comes, where nothing else is told");
        int[] rows = {0xFFFF, 8, 0x0000, 4, 0x0001, 0, 0x7FFF, 0, 0x8000, 8};
        for (int i = 0; i < rows.length; i += 2) {
            int comes = rows[i];
            whatComes(MOVE, comes, 0x5555, comes, rows[i + 1]);
            whatComes(COMPARE, comes, 0, 0, rows[i + 1]);
            whatComes(TEST_BITS, comes, 0xFFFF, 0xFFFF, rows[i + 1]);
            whatComes(WITHOUT, 0, comes, comes, rows[i + 1]);
            whatComes(OR, 0, comes, comes, rows[i + 1]);
            whatComes(ADD, 0, comes, comes, rows[i + 1]);
            whatComes(SUBTRACT, 0, comes, comes, rows[i + 1]);
        }
    }

    private static void whatComes(int op, int s, int d, int due, int flagsDue) {
        String what = Check.octal(op) + " of " + s + " and " + d;
        for (int flags : new int[] {0, 8, 4, 12}) {
            new Scene(CHECK, what).code(100, op << 12 | 0100).register(1, s).register(0, d).flags(flags)
                    .thenRegister(0, due).thenFlags(flagsDue).done(102);
        }
    }

    private static void flagsThatAreNotTold() {
        CHECK.sentence(SECTION, "where nothing else is told");
        for (int flags = 0; flags < 16; flags++) {
            for (int op : new int[] {MOVE, TEST_BITS, WITHOUT, OR}) {
                WordGuest x = new WordGuest();
                x.poke(0, op << 12 | 0100);
                x.put(0, 3);
                x.put(1, 1);
                x.flag(flags);
                x.run(1);
                CHECK.same("C stays behind " + Check.octal(op), x.flags(), flags & 1);
            }
        }
    }

    private static void move() {
        CHECK.sentence(SECTION, "01 move s to d (V 0)");
        for (int d : new int[] {0, 5, 0xFFFF}) {
            ROWS.two(MOVE, 0x0000, d, 0x0000, "010-");
            ROWS.two(MOVE, 0x0001, d, 0x0001, "000-");
            ROWS.two(MOVE, 0x7FFE, d, 0x7FFE, "000-");
            ROWS.two(MOVE, 0x7FFF, d, 0x7FFF, "000-");
            ROWS.two(MOVE, 0x8000, d, 0x8000, "100-");
            ROWS.two(MOVE, 0x8001, d, 0x8001, "100-");
            ROWS.two(MOVE, 0xFFFF, d, 0xFFFF, "100-");
        }
        ROWS.twoOfWords(MOVE, 0x0080, 5, 0x0080, "000-");
        ROWS.twoOfWords(MOVE, 0x0100, 5, 0x0100, "000-");
    }

    private static void moveWithin() {
        CHECK.sentence(SECTION, "01 move s to d (V 0)");
        for (int flags = 0; flags < 16; flags++) {
            new Scene(CHECK, "from memory to a register").code(100, 011100).register(1, 500).words(500, 0x8001).flags(flags)
                    .thenRegister(0, 0x8001).thenFlags(Signs.due("100-", flags)).done(102);
            new Scene(CHECK, "from a register to memory").code(100, 010110).register(1, 7).register(0, 500).flags(flags)
                    .thenWords(500, 7).thenFlags(Signs.due("000-", flags)).done(102);
            new Scene(CHECK, "byte from memory to a register").code(100, 0111100).register(1, 501).words(500, 0x80FF)
                    .flags(flags).thenRegister(0, 0xFF80).thenFlags(Signs.due("100-", flags)).done(102);
            new Scene(CHECK, "byte from a register to memory").code(100, 0110110).register(1, 0x8007).register(0, 501)
                    .words(500, 0xFFFF).flags(flags).thenWords(500, 0x07FF).thenFlags(Signs.due("000-", flags)).done(102);
        }
    }

    private static void compare(int s, int d, String flagsDue) {
        ROWS.two(COMPARE, s, d, d, flagsDue);
    }

    private static void compareOverflow() {
        CHECK.sentence(SECTION, "02 compare: s less d; V: signs differ, and the result's is d's");
        compare(0x7FFE, 0xFFFF, "0001");
        compare(0x7FFF, 0xFFFF, "1011");
        compare(0x7FFF, 0x0000, "0000");
        compare(0x7FFF, 0xFFFE, "1011");
        compare(0x7FFF, 0x8000, "1011");
        compare(0x0000, 0x8001, "0001");
        compare(0x0000, 0x8000, "1011");
        compare(0xFFFF, 0x8000, "0000");
        compare(0x8000, 0x0000, "1000");
        compare(0x8000, 0x0001, "0010");
        compare(0x8001, 0x0001, "1000");
        compare(0x8001, 0x0002, "0010");
        compare(0x8000, 0x7FFF, "0010");
        compare(0xFFFF, 0x7FFF, "1000");
        compare(0xFFFE, 0x7FFF, "0010");
    }

    private static void compareBelow() {
        CHECK.sentence(SECTION, "C: s is below d without signs");
        compare(0x0004, 0x0005, "1001");
        compare(0x0005, 0x0005, "0100");
        compare(0x0006, 0x0005, "0000");
        compare(0x0000, 0x0000, "0100");
        compare(0x0000, 0x0001, "1001");
        compare(0x0000, 0xFFFF, "0001");
        compare(0xFFFF, 0x0000, "1000");
        compare(0xFFFE, 0xFFFF, "1001");
        compare(0xFFFF, 0xFFFE, "0000");
        compare(0xFFFF, 0xFFFF, "0100");
        compare(0x8000, 0x8000, "0100");
        compare(0x8000, 0x8001, "1001");
        compare(0x8000, 0xFFFF, "1001");
        ROWS.twoOfWords(COMPARE, 0x0100, 0x00FF, 0x00FF, "0000");
        ROWS.twoOfWords(COMPARE, 0x00FF, 0x0100, 0x0100, "1001");
    }

    private static void testBits() {
        CHECK.sentence(SECTION, "03 test bits: s and d (V 0)");
        bits(0x0000, 0xFFFF, "010-");
        bits(0xFFFF, 0x0000, "010-");
        bits(0x7FFF, 0x8000, "010-");
        bits(0x8000, 0x8000, "100-");
        bits(0xFFFF, 0x7FFF, "000-");
        bits(0xFFFF, 0xFFFF, "100-");
        bits(0x0001, 0x0001, "000-");
        bits(0x0001, 0xFFFE, "010-");
        ROWS.twoOfWords(TEST_BITS, 0x0080, 0x0080, 0x0080, "000-");
        ROWS.twoOfWords(TEST_BITS, 0x0100, 0x0100, 0x0100, "000-");
    }

    private static void bits(int s, int d, String flagsDue) {
        ROWS.two(TEST_BITS, s, d, d, flagsDue);
    }

    private static void without() {
        CHECK.sentence(SECTION, "04 d without the bits of s (V 0)");
        ROWS.two(WITHOUT, 0x0000, 0x0000, 0x0000, "010-");
        ROWS.two(WITHOUT, 0x0000, 0xFFFF, 0xFFFF, "100-");
        ROWS.two(WITHOUT, 0xFFFF, 0xFFFF, 0x0000, "010-");
        ROWS.two(WITHOUT, 0xFFFF, 0x0000, 0x0000, "010-");
        ROWS.two(WITHOUT, 0x8000, 0xFFFF, 0x7FFF, "000-");
        ROWS.two(WITHOUT, 0x7FFF, 0xFFFF, 0x8000, "100-");
        ROWS.two(WITHOUT, 0x8000, 0x8000, 0x0000, "010-");
        ROWS.two(WITHOUT, 0x0001, 0x8001, 0x8000, "100-");
        ROWS.two(WITHOUT, 0x0003, 0x0005, 0x0004, "000-");
    }

    private static void or() {
        CHECK.sentence(SECTION, "05 s or d (V 0)");
        ROWS.two(OR, 0x0000, 0x0000, 0x0000, "010-");
        ROWS.two(OR, 0x0001, 0x0000, 0x0001, "000-");
        ROWS.two(OR, 0x0000, 0x8000, 0x8000, "100-");
        ROWS.two(OR, 0x8000, 0x0000, 0x8000, "100-");
        ROWS.two(OR, 0x7FFF, 0x0000, 0x7FFF, "000-");
        ROWS.two(OR, 0x7FFF, 0x8000, 0xFFFF, "100-");
        ROWS.two(OR, 0x0003, 0x0005, 0x0007, "000-");
    }

    private static void ofBytes() {
        CHECK.sentence(SECTION, "with 0100000 more the same of bytes");
        for (int other : new int[] {0x00, 0x7F, 0x80, 0xFF}) {
            byteOfRegisters(011, other, 0x80, 0x00, 0xFF80, "100-");
            byteOfRegisters(011, other, 0x7F, 0x00, 0x007F, "000-");
            byteOfRegisters(012, other, 0x7F, 0xFF, other << 8 | 0xFF, "1011");
            byteOfRegisters(012, other, 0x7E, 0xFF, other << 8 | 0xFF, "0001");
            byteOfRegisters(013, other, 0x80, 0x7F, other << 8 | 0x7F, "010-");
            byteOfRegisters(014, other, 0xFF, 0xFF, other << 8, "010-");
            byteOfRegisters(015, other, 0x00, 0x00, other << 8, "010-");
        }
    }

    private static void byteOfRegisters(int op, int other, int s, int d, int due, String flagsDue) {
        for (int flags = 0; flags < 16; flags++) {
            new Scene(CHECK, Check.octal(op) + " of bytes").code(100, op << 12 | 0100)
                    .register(1, other << 8 ^ 0xFF00 | s).register(0, other << 8 | d).flags(flags)
                    .thenRegister(0, due).thenFlags(Signs.due(flagsDue, flags)).done(102);
        }
    }

    private static void add(int s, int d, int due, String flagsDue) {
        ROWS.twoOfWords(ADD, s, d, due, flagsDue);
        ROWS.twoOfWords(ADD, d, s, due, flagsDue);
    }

    private static void addOverflow() {
        CHECK.sentence(SECTION, "06 add: V: signs are the same, and the result's is another");
        add(0x7FFE, 0x0001, 0x7FFF, "0000");
        add(0x7FFF, 0x0000, 0x7FFF, "0000");
        add(0x7FFF, 0x0001, 0x8000, "1010");
        add(0x7FFF, 0x0002, 0x8001, "1010");
        add(0x7FFF, 0x7FFF, 0xFFFE, "1010");
        add(0x4000, 0x3FFF, 0x7FFF, "0000");
        add(0x4000, 0x4000, 0x8000, "1010");
        add(0x8001, 0xFFFF, 0x8000, "1001");
        add(0x8000, 0xFFFF, 0x7FFF, "0011");
        add(0x8000, 0x8000, 0x0000, "0111");
        add(0x8000, 0x7FFF, 0xFFFF, "1000");
        add(0x8000, 0x0000, 0x8000, "1000");
        add(0xFFFF, 0x7FFF, 0x7FFE, "0001");
    }

    private static void addBeyond() {
        CHECK.sentence(SECTION, "C: the sum is beyond 65535");
        add(0x0000, 0x0000, 0x0000, "0100");
        add(0x0001, 0x0002, 0x0003, "0000");
        add(0xFFFE, 0x0001, 0xFFFF, "1000");
        add(0xFFFF, 0x0000, 0xFFFF, "1000");
        add(0xFFFF, 0x0001, 0x0000, "0101");
        add(0xFFFF, 0x0002, 0x0001, "0001");
        add(0xFFFF, 0xFFFF, 0xFFFE, "1001");
        add(0x8001, 0x7FFE, 0xFFFF, "1000");
        add(0x8001, 0x7FFF, 0x0000, "0101");
        add(0x00FF, 0x0001, 0x0100, "0000");
    }

    private static void subtractOverflow() {
        CHECK.sentence(SECTION, "016 subtract: d less s; V: signs differ, and the result's is s's");
        ROWS.twoOfWords(SUBTRACT, 0xFFFF, 0x7FFE, 0x7FFF, "0001");
        ROWS.twoOfWords(SUBTRACT, 0xFFFF, 0x7FFF, 0x8000, "1011");
        ROWS.twoOfWords(SUBTRACT, 0xFFFE, 0x7FFF, 0x8001, "1011");
        ROWS.twoOfWords(SUBTRACT, 0x0000, 0x7FFF, 0x7FFF, "0000");
        ROWS.twoOfWords(SUBTRACT, 0x8000, 0x7FFF, 0xFFFF, "1011");
        ROWS.twoOfWords(SUBTRACT, 0x8000, 0x0000, 0x8000, "1011");
        ROWS.twoOfWords(SUBTRACT, 0x8001, 0x0000, 0x7FFF, "0001");
        ROWS.twoOfWords(SUBTRACT, 0x0000, 0x8000, 0x8000, "1000");
        ROWS.twoOfWords(SUBTRACT, 0x0001, 0x8000, 0x7FFF, "0010");
        ROWS.twoOfWords(SUBTRACT, 0x0001, 0x8001, 0x8000, "1000");
        ROWS.twoOfWords(SUBTRACT, 0x0002, 0x8001, 0x7FFF, "0010");
        ROWS.twoOfWords(SUBTRACT, 0x7FFF, 0xFFFF, 0x8000, "1000");
        ROWS.twoOfWords(SUBTRACT, 0x7FFF, 0xFFFE, 0x7FFF, "0010");
    }

    private static void subtractBelow() {
        CHECK.sentence(SECTION, "C: d is below s");
        ROWS.twoOfWords(SUBTRACT, 0x0005, 0x0004, 0xFFFF, "1001");
        ROWS.twoOfWords(SUBTRACT, 0x0005, 0x0005, 0x0000, "0100");
        ROWS.twoOfWords(SUBTRACT, 0x0005, 0x0006, 0x0001, "0000");
        ROWS.twoOfWords(SUBTRACT, 0x0000, 0x0000, 0x0000, "0100");
        ROWS.twoOfWords(SUBTRACT, 0x0001, 0x0000, 0xFFFF, "1001");
        ROWS.twoOfWords(SUBTRACT, 0xFFFF, 0x0000, 0x0001, "0001");
        ROWS.twoOfWords(SUBTRACT, 0x0000, 0xFFFF, 0xFFFF, "1000");
        ROWS.twoOfWords(SUBTRACT, 0xFFFF, 0xFFFE, 0xFFFF, "1001");
        ROWS.twoOfWords(SUBTRACT, 0xFFFE, 0xFFFF, 0x0001, "0000");
        ROWS.twoOfWords(SUBTRACT, 0xFFFF, 0xFFFF, 0x0000, "0100");
    }

    private static void noBytesOfAddAndSubtract() {
        CHECK.sentence(SECTION, "06 add");
        new Scene(CHECK, "add at an odd place").code(100, 060110).register(0, 501).faulty(Scene.ODD);
        new Scene(CHECK, "subtract at an odd place").code(100, 0160110).register(0, 501).faulty(Scene.ODD);
        new Scene(CHECK, "subtract from an odd place").code(100, 0161100).register(1, 501).faulty(Scene.ODD);
        new Scene(CHECK, "subtract of whole registers").code(100, 0160100).register(1, 0x0101).register(0, 0x0303)
                .thenRegister(0, 0x0202).thenFlags(0).done(102);
    }
}
