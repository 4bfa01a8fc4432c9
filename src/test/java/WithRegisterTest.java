/** '3 INSTRUCTIONS', those of a register and an operand: products, quotients, moves, either of, and 077. */
public final class WithRegisterTest {
    private static final Check CHECK = new Check();
    private static final String SECTION = "3 INSTRUCTIONS";
    private static final int PRODUCT = 070;
    private static final int QUOTIENT = 071;
    private static final int MOVED = 072;
    private static final int EITHER = 074;
    private static final int[] EDGES = {0, 1, 2, 3, 0x3FFF, 0x4000, 0x5555, 0x7FFE, 0x7FFF, 0x8000, 0x8001, 0xAAAA,
        0xBFFF, 0xC000, 0xFFFE, 0xFFFF};

    public static void main(String[] args) {
        productIntoEven();
        productFits();
        productIntoOdd();
        productOfEachRegister();
        quotientToZero();
        quotientFits();
        quotientByZero();
        quotientStays();
        quotientIntoOdd();
        quotientOfEachRegister();
        movedByHand();
        movedByEachDistance();
        movedByLowestSixBits();
        movedOfEachRegister();
        either();
        registerThatGrowsToo();
        countDown();
        countDownDistance();
        countDownOfEachRegister();
        CHECK.end();
    }

    private static int code(int op, int r, int six) {
        return op << 9 | r << 6 | six;
    }

    /** r0 and r1 by s, which stands in register 2, and then in memory, where register 2 grows. */
    private static void row(int code, int r0, int r1, int s, int due0, int due1, String flagsDue) {
        for (int flags = 0; flags < 16; flags++) {
            String what = Check.octal(code) + " of " + r0 + ", " + r1 + " by " + s + " with flags " + flags;
            new Scene(CHECK, what).code(100, code | 002).register(0, r0).register(1, r1).register(2, s).flags(flags)
                    .thenRegister(0, due0).thenRegister(1, due1).thenFlags(Signs.due(flagsDue, flags)).done(102);
            new Scene(CHECK, what + " in memory").code(100, code | 022).register(0, r0).register(1, r1)
                    .register(2, 500).words(500, s).flags(flags)
                    .thenRegister(0, due0).thenRegister(1, due1).thenRegister(2, 502)
                    .thenFlags(Signs.due(flagsDue, flags)).done(102);
        }
    }

    private static void product(int a, int s, int high, int low, String flagsDue) {
        row(code(PRODUCT, 0, 0), a, 0x7777, s, high, low, flagsDue);
        row(code(PRODUCT, 0, 0), s, 0x8888, a, high, low, flagsDue);
    }

    private static void productIntoEven() {
        CHECK.sentence(SECTION, "070 product with signs: r even: the higher word to r, the lower one to the next register");
        product(3, 5, 0, 15, "0000");
        product(-3, 5, 0xFFFF, 0xFFF1, "1000");
        product(-3, -5, 0, 15, "0000");
        product(0, 0, 0, 0, "0100");
        product(0, 0xFFFF, 0, 0, "0100");
        product(0, 0x8000, 0, 0, "0100");
        product(1, 0xFFFF, 0xFFFF, 0xFFFF, "1000");
        product(0xFFFF, 0xFFFF, 0, 1, "0000");
        product(256, 256, 1, 0, "0001");
        product(256, -256, 0xFFFF, 0, "1001");
        product(0x7FFF, 0x7FFF, 0x3FFF, 0x0001, "0001");
        product(0x7FFF, 0x8000, 0xC000, 0x8000, "1001");
        product(0x8000, 0x8000, 0x4000, 0x0000, "0001");
    }

    private static void productFits() {
        CHECK.sentence(SECTION, "V 0, C: it does not fit into a word with sign");
        product(217, 151, 0, 32767, "0000");
        product(256, 128, 0, 32768, "0001");
        product(3, 10923, 0, 32769, "0001");
        product(-1, 32767, 0xFFFF, 0x8001, "1000");
        product(-256, 128, 0xFFFF, 0x8000, "1000");
        product(-3, 10923, 0xFFFF, 0x7FFF, "1001");
        product(1, 0x7FFF, 0, 0x7FFF, "0000");
        product(1, 0x8000, 0xFFFF, 0x8000, "1000");
        product(-1, 0x8000, 0, 0x8000, "0001");
        product(255, 257, 0, 65535, "0001");
        product(-255, 257, 0xFFFF, 1, "1001");
    }

    private static void productOdd(int a, int s, int low, String flagsDue) {
        row(code(PRODUCT, 1, 0), 0x7777, a, s, 0x7777, low, flagsDue);
    }

    private static void productIntoOdd() {
        CHECK.sentence(SECTION, "r odd: the lower one to r");
        productOdd(3, 5, 15, "0000");
        productOdd(-3, 5, 0xFFF1, "1000");
        productOdd(0, 5, 0, "0100");
        productOdd(217, 151, 32767, "0000");
        productOdd(256, 128, 32768, "0001");
        productOdd(-256, 128, 0x8000, "1000");
        productOdd(-3, 10923, 0x7FFF, "1001");
        // N and Z are by the whole product, not by the lower word
        productOdd(256, 256, 0, "0001");
        productOdd(-256, 256, 0, "1001");
        productOdd(0x8000, 0x8000, 0, "0001");
    }

    private static void productOfEachRegister() {
        CHECK.sentence(SECTION, "070, 071, 072, 074 then r (three bits) and six bits s");
        for (int r = 0; r < 6; r++) {
            Scene x = new Scene(CHECK, "product into " + r).code(100, code(PRODUCT, r, 027), 0x100).register(r, 0x101);
            if (r % 2 == 0) {
                x.thenRegister(r, 1).thenRegister(r + 1, 0x100);
            } else {
                x.thenRegister(r, 0x100);
            }
            x.thenFlags(1).done(104);
        }
        new Scene(CHECK, "product into 6 and 7").code(100, code(PRODUCT, 6, 027), 0x100).register(6, 0x101)
                .thenRegister(6, 1).thenFlags(1).done(0x100);
        new Scene(CHECK, "product into 7").code(100, code(PRODUCT, 7, 027), 3).thenFlags(0).done(3 * 104);
        new Scene(CHECK, "product with itself").code(100, code(PRODUCT, 2, 2)).register(2, 0x101)
                .thenRegister(2, 1).thenRegister(3, 0x201).thenFlags(1).done(102);
        new Scene(CHECK, "product with the next one").code(100, code(PRODUCT, 2, 3)).register(2, 5).register(3, 7)
                .thenRegister(2, 0).thenRegister(3, 35).thenFlags(0).done(102);
    }

    private static void quotient(int number, int s, int quotient, int rest, String flagsDue) {
        row(code(QUOTIENT, 0, 0), number >>> 16, number & 0xFFFF, s, quotient, rest, flagsDue);
    }

    /** There is no quotient: the number stays in its registers. */
    private static void noQuotient(int number, int s, String flagsDue) {
        row(code(QUOTIENT, 0, 0), number >>> 16, number & 0xFFFF, s, number >>> 16, number & 0xFFFF, flagsDue);
    }

    private static void quotientToZero() {
        CHECK.sentence(SECTION, "by s, to 0: to r, the rest to the next one (V, C 0)");
        quotient(17, 5, 3, 2, "0000");
        quotient(-17, 5, -3, -2, "1000");
        quotient(17, -5, -3, 2, "1000");
        quotient(-17, -5, 3, -2, "0000");
        quotient(7, 2, 3, 1, "0000");
        quotient(-7, 2, -3, -1, "1000");
        quotient(15, 5, 3, 0, "0000");
        quotient(-15, 5, -3, 0, "1000");
        quotient(0, 5, 0, 0, "0100");
        quotient(4, 5, 0, 4, "0100");
        quotient(5, 5, 1, 0, "0000");
        quotient(-4, 5, 0, -4, "0100");
        quotient(-5, 5, -1, 0, "1000");
        quotient(4, -5, 0, 4, "0100");
        quotient(-1, -1, 1, 0, "0000");
        quotient(0x7FFF, 0x8000, 0, 0x7FFF, "0100");
        quotient(0x8000, 0x8000, -1, 0, "1000");
        quotient(-0x8000, 0x8000, 1, 0, "0000");
        quotient(-0x7FFF, 0x8000, 0, -0x7FFF, "0100");
    }

    private static void quotientFits() {
        CHECK.sentence(SECTION, "quotient no word with a sign: V 1, C 0");
        quotient(0x7FFE, 1, 0x7FFE, 0, "0000");
        quotient(0x7FFF, 1, 0x7FFF, 0, "0000");
        noQuotient(0x8000, 1, "--10");
        quotient(-0x7FFF, 1, 0x8001, 0, "1000");
        quotient(-0x8000, 1, 0x8000, 0, "1000");
        noQuotient(-0x8001, 1, "--10");
        quotient(0x8000, -1, 0x8000, 0, "1000");
        noQuotient(0x8001, -1, "--10");
        quotient(-0x7FFF, -1, 0x7FFF, 0, "0000");
        noQuotient(-0x8000, -1, "--10");
        quotient(65535, 2, 0x7FFF, 1, "0000");
        noQuotient(65536, 2, "--10");
        quotient(-65536, 2, 0x8000, 0, "1000");
        quotient(-65537, 2, 0x8000, -1, "1000");
        noQuotient(-65538, 2, "--10");
        quotient(0x40007FFF, 0x8000, 0x8000, 0x7FFF, "1000");
        noQuotient(0x40008000, 0x8000, "--10");
        quotient(-0x3FFFFFFF, 0x8000, 0x7FFF, -0x7FFF, "0000");
        noQuotient(-0x40000000, 0x8000, "--10");
        quotient(0x7FFF * 0x8000 - 1, 0x7FFF, 0x7FFF, 0x7FFE, "0000");
        noQuotient(0x7FFF * 0x8000, 0x7FFF, "--10");
        noQuotient(Integer.MAX_VALUE, 0x7FFF, "--10");
        noQuotient(Integer.MAX_VALUE, -1, "--10");
        noQuotient(Integer.MIN_VALUE, 1, "--10");
        noQuotient(Integer.MIN_VALUE, -1, "--10");
        noQuotient(Integer.MIN_VALUE, 0x8000, "--10");
    }

    private static void quotientByZero() {
        CHECK.sentence(SECTION, "s 0: V and C 1");
        for (int number : new int[] {0, 1, -1, 0x7FFF, 0x8000, Integer.MAX_VALUE, Integer.MIN_VALUE}) {
            noQuotient(number, 0, "--11");
        }
        quotient(0, 1, 0, 0, "0100");
        quotient(0, -1, 0, 0, "0100");
    }

    private static void quotientStays() {
        CHECK.sentence(SECTION, "and then all else stays");
        // what the ways of operands do is done before there is, or is no, quotient
        for (int s : new int[] {0, 1}) {
            String due = s == 0 ? "--11" : "--10";
            for (int flags = 0; flags < 16; flags++) {
                new Scene(CHECK, "by " + s + " behind PLACE").code(100, code(QUOTIENT, 0, 027), s).register(0, 7)
                        .flags(flags).thenFlags(Signs.due(due, flags)).done(104);
                new Scene(CHECK, "by " + s + " told by a register").code(100, code(QUOTIENT, 0, 042)).register(0, 7)
                        .register(2, 502).words(500, s).flags(flags)
                        .thenRegister(2, 500).thenFlags(Signs.due(due, flags)).done(102);
            }
        }
    }

    private static void quotientIntoOdd() {
        CHECK.sentence(SECTION, "071 (r even; else UNKNOWN)");
        for (int r = 1; r < 8; r += 2) {
            for (int six = 0; six < 64; six++) {
                new Scene(CHECK, "quotient into " + r).code(100, code(QUOTIENT, r, six), 1).flags(six & 15)
                        .faulty(Scene.UNKNOWN);
            }
        }
        for (int r = 0; r < 6; r += 2) {
            new Scene(CHECK, "quotient into " + r).code(100, code(QUOTIENT, r, 027), 5).register(r, 0).register(r + 1, 17)
                    .thenRegister(r, 3).thenRegister(r + 1, 2).thenFlags(0).done(104);
        }
    }

    private static void quotientOfEachRegister() {
        CHECK.sentence(SECTION, "of the number with sign that r (higher) and the next register are");
        new Scene(CHECK, "6 and 7").code(100, code(QUOTIENT, 6, 027), 5).register(6, 0)
                .thenRegister(6, 20).thenFlags(0).done(4);
        new Scene(CHECK, "by itself").code(100, code(QUOTIENT, 2, 2)).register(2, 2).register(3, 3)
                .thenFlags(2).done(102);
        new Scene(CHECK, "by the next one").code(100, code(QUOTIENT, 2, 3)).register(2, 0).register(3, 3)
                .thenRegister(2, 1).thenRegister(3, 0).thenFlags(0).done(102);
        // what a lower word without and a higher one with a sign makes
        quotient(0x0001FFFF, 0x7FFF, 4, 3, "0000");
        quotient(0xFFFF0001, 0x7FFF, -2, -1, "1000");
        quotient(0x00018000, 0x0004, 0x6000, 0, "0000");
    }

    /** What the document tells, a bit at a time: {result, flags}. */
    private static int[] moved(int x, int six) {
        int distance = six < 32 ? six : six - 64;
        int result = x;
        int carry = 0;
        for (int i = 0; i < distance; i++) {
            carry = result / 0x8000;
            result = result * 2 % 0x10000;
        }
        for (int i = 0; i > distance; i--) {
            carry = result % 2;
            result = result / 2 + (x >= 0x8000 ? 0x8000 : 0);
        }
        int n = result >= 0x8000 ? 8 : 0;
        int z = result == 0 ? 4 : 0;
        int v = (x >= 0x8000) != (result >= 0x8000) ? 2 : 0;
        return new int[] {result, n + z + v + carry};
    }

    private static void move(int x, int s, int due, String flagsDue) {
        row(code(MOVED, 0, 0), x, 0x7777, s, due, 0x7777, flagsDue);
    }

    private static void movedByHand() {
        CHECK.sentence(SECTION, "up, or (below 0) down with the sign kept"
                + " (V: the sign is another than before, C: the bit that went last, 0 if none did; 32 and 31 are moved so, too)");
        move(0x1234, 0, 0x1234, "0000");
        move(0x8000, 0, 0x8000, "1000");
        move(0x0000, 0, 0x0000, "0100");
        move(0x3FFF, 1, 0x7FFE, "0000");
        move(0x4000, 1, 0x8000, "1010");
        move(0x8000, 1, 0x0000, "0111");
        move(0xBFFF, 1, 0x7FFE, "0011");
        move(0xC000, 1, 0x8000, "1001");
        move(0x0001, 14, 0x4000, "0000");
        move(0x0001, 15, 0x8000, "1010");
        move(0x0001, 16, 0x0000, "0101");
        move(0x0001, 17, 0x0000, "0100");
        move(0xFFFF, 15, 0x8000, "1001");
        move(0xFFFF, 16, 0x0000, "0111");
        move(0xFFFF, 17, 0x0000, "0110");
        move(0xFFFF, 30, 0x0000, "0110");
        move(0xFFFF, 31, 0x0000, "0110");
        move(0x7FFF, 31, 0x0000, "0100");
        move(0x8000, -32, 0xFFFF, "1001");
        move(0x7FFF, -32, 0x0000, "0100");
        move(0x8000, -31, 0xFFFF, "1001");
        move(0x8000, -17, 0xFFFF, "1001");
        move(0x8000, -16, 0xFFFF, "1001");
        move(0x8000, -15, 0xFFFF, "1000");
        move(0x4000, -14, 0x0001, "0000");
        move(0x4000, -15, 0x0000, "0101");
        move(0x4000, -16, 0x0000, "0100");
        move(0x8001, -1, 0xC000, "1001");
        move(0x8002, -1, 0xC001, "1000");
        move(0x0001, -1, 0x0000, "0101");
        // the sign goes and comes back: it is not another than before
        move(0x5555, 2, 0x5554, "0001");
        move(0xAAAA, 2, 0xAAA8, "1000");
    }

    private static void movedByEachDistance() {
        CHECK.sentence(SECTION, "V: the sign is another than before, C: the bit that went last, 0 if none did");
        for (int six = 0; six < 64; six++) {
            for (int x : EDGES) {
                int[] due = moved(x, six);
                new Scene(CHECK, x + " moved by " + six).code(100, code(MOVED, 0, 2)).register(0, x).register(2, six)
                        .flags(six * 7 & 15).thenRegister(0, due[0]).thenFlags(due[1]).done(102);
            }
        }
    }

    private static void movedByLowestSixBits() {
        CHECK.sentence(SECTION, "072 r moved by the lowest six bits of s with a sign");
        for (int higher : new int[] {0x0040, 0x0080, 0x8000, 0x7FC0, 0xFFC0}) {
            move(0x1234, higher | 4, 0x2340, "0001");
            move(0x1234, higher, 0x1234, "0000");
            move(0x8000, higher | 31, 0x0000, "0110");
            move(0x8000, higher | 32, 0xFFFF, "1001");
            move(0x8003, higher | 63, 0xC001, "1001");
        }
    }

    private static void movedOfEachRegister() {
        CHECK.sentence(SECTION, "072 r moved");
        for (int r = 0; r < 7; r++) {
            new Scene(CHECK, "register " + r).code(100, code(MOVED, r, 027), 1).register(r, 0x1234)
                    .thenRegister(r, 0x2468).thenFlags(0).done(104);
        }
        new Scene(CHECK, "PLACE").code(100, code(MOVED, 7, 027), 1).thenFlags(0).done(208);
        new Scene(CHECK, "by itself").code(100, code(MOVED, 3, 3)).register(3, 3).thenRegister(3, 24).thenFlags(0).done(102);
    }

    private static void eitherRow(int r, int d, int due, String flagsDue) {
        for (int flags = 0; flags < 16; flags++) {
            String what = r + " or else " + d + " with flags " + flags;
            new Scene(CHECK, what).code(100, code(EITHER, 1, 2)).register(1, r).register(2, d).flags(flags)
                    .thenRegister(2, due).thenFlags(Signs.due(flagsDue, flags)).done(102);
            new Scene(CHECK, what + " in memory").code(100, code(EITHER, 1, 022)).register(1, r).register(2, 500)
                    .words(500, d).flags(flags)
                    .thenWords(500, due).thenRegister(2, 502).thenFlags(Signs.due(flagsDue, flags)).done(102);
        }
    }

    private static void either() {
        CHECK.sentence(SECTION, "074 either of d and r to d (V 0)");
        eitherRow(0x0000, 0x0000, 0x0000, "010-");
        eitherRow(0xFFFF, 0xFFFF, 0x0000, "010-");
        eitherRow(0xFFFF, 0x0000, 0xFFFF, "100-");
        eitherRow(0x0000, 0xFFFF, 0xFFFF, "100-");
        eitherRow(0x8000, 0x8000, 0x0000, "010-");
        eitherRow(0x8000, 0x7FFF, 0xFFFF, "100-");
        eitherRow(0xFFFF, 0x8000, 0x7FFF, "000-");
        eitherRow(0x7FFF, 0xFFFF, 0x8000, "100-");
        eitherRow(0x0FF0, 0x00FF, 0x0F0F, "000-");
        eitherRow(0x0080, 0x0000, 0x0080, "000-");
        new Scene(CHECK, "with itself").code(100, code(EITHER, 2, 2)).register(2, 77).thenRegister(2, 0).thenFlags(4).done(102);
        new Scene(CHECK, "with PLACE").code(100, code(EITHER, 7, 2)).register(2, 1).thenRegister(2, 103).thenFlags(0).done(102);
        new Scene(CHECK, "into PLACE").code(100, code(EITHER, 2, 7)).register(2, 1).thenFlags(0).done(103);
        new Scene(CHECK, "at an odd place").code(100, code(EITHER, 2, 013)).register(3, 501).faulty(Scene.ODD);
    }

    /** The document leaves open when r is read; here it is read behind the operand, as it is then. */
    private static void registerThatGrowsToo() {
        CHECK.sentence(SECTION, "070, 071, 072, 074 then r (three bits) and six bits s (074: d)");
        new Scene(CHECK, "product").code(100, code(PRODUCT, 3, 023)).register(3, 500).words(500, 3)
                .thenRegister(3, 3 * 502).thenFlags(0).done(102);
        new Scene(CHECK, "quotient").code(100, code(QUOTIENT, 2, 023)).register(2, 0).register(3, 500).words(500, 100)
                .thenRegister(2, 5).thenRegister(3, 2).thenFlags(0).done(102);
        new Scene(CHECK, "moved").code(100, code(MOVED, 3, 043)).register(3, 502).words(500, 1)
                .thenRegister(3, 1000).thenFlags(0).done(102);
        new Scene(CHECK, "either").code(100, code(EITHER, 3, 023)).register(3, 512).words(512, 0x0F00)
                .thenWords(512, 0x0F00 ^ 514).thenRegister(3, 514).thenFlags(0).done(102);
    }

    private static void countDown() {
        CHECK.sentence(SECTION, "077 r and six bits k: r one less; if it is not 0, PLACE less 2 k (flags stay).");
        int[] rows = {2, 1, 992, 1, 0, 1002, 0, 65535, 992, 65535, 65534, 992, 0x8000, 0x7FFF, 992, 0x7FFF, 0x7FFE, 992,
            3, 2, 992, 256, 255, 992, 257, 256, 992};
        for (int i = 0; i < rows.length; i += 3) {
            for (int flags = 0; flags < 16; flags++) {
                new Scene(CHECK, "077 of " + rows[i] + " with flags " + flags).code(1000, code(077, 3, 5))
                        .register(3, rows[i]).flags(flags).thenRegister(3, rows[i + 1]).done(rows[i + 2]);
            }
        }
    }

    private static void countDownDistance() {
        CHECK.sentence(SECTION, "PLACE less 2 k");
        for (int k = 0; k < 64; k++) {
            new Scene(CHECK, "077 by " + k).code(1000, code(077, 3, k)).register(3, 9).thenRegister(3, 8).done(1002 - 2 * k);
            new Scene(CHECK, "077 by " + k + ", to 0").code(1000, code(077, 3, k)).register(3, 1).thenRegister(3, 0).done(1002);
        }
    }

    private static void countDownOfEachRegister() {
        CHECK.sentence(SECTION, "077 r and six bits k");
        for (int r = 0; r < 7; r++) {
            new Scene(CHECK, "register " + r).code(1000, code(077, r, 1)).register(r, 2).thenRegister(r, 1).done(1000);
            new Scene(CHECK, "register " + r + " to 0").code(1000, code(077, r, 1)).register(r, 1).thenRegister(r, 0).done(1002);
        }
        new Scene(CHECK, "PLACE itself").code(1000, code(077, 7, 1)).done(999);
        new Scene(CHECK, "PLACE itself, k 0").code(1000, code(077, 7, 0)).done(1001);
    }
}
