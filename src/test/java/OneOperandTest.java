/** '3 INSTRUCTIONS', those of one operand: 0050 to 0063 of words and bytes, 0003 and 0067. */
public final class OneOperandTest {
    private static final Check CHECK = new Check();
    private static final Rows ROWS = new Rows(CHECK);
    private static final String SECTION = "3 INSTRUCTIONS";
    private static final String ANY = "----";
    private static final String WITH_C = "---1";
    private static final String WITHOUT_C = "---0";

    public static void main(String[] args) {
        clear();
        turn();
        oneMore();
        oneLess();
        minus();
        carryMore();
        noCarryMore();
        carryLess();
        noCarryLess();
        test();
        downWithCarry();
        upWithCarry();
        downWithSign();
        up();
        ofBytes();
        exchange();
        spreadSign();
        CHECK.end();
    }

    private static void clear() {
        CHECK.sentence(SECTION, "0050 clear (V, C 0)");
        for (int x : new int[] {0, 1, 0x7FFF, 0x8000, 0xFFFF}) {
            ROWS.one(050, ANY, x, 0, "0100");
        }
        ROWS.oneOfWords(050, ANY, 0x1234, 0, "0100");
    }

    private static void turn() {
        CHECK.sentence(SECTION, "0051 turn all bits (V 0, C 1)");
        ROWS.one(051, ANY, 0x0000, 0xFFFF, "1001");
        ROWS.one(051, ANY, 0xFFFF, 0x0000, "0101");
        ROWS.one(051, ANY, 0x7FFF, 0x8000, "1001");
        ROWS.one(051, ANY, 0x8000, 0x7FFF, "0001");
        ROWS.one(051, ANY, 0xFFFE, 0x0001, "0001");
        ROWS.oneOfWords(051, ANY, 0xFF00, 0x00FF, "0001");
    }

    private static void oneMore() {
        CHECK.sentence(SECTION, "0052 one more (V: it comes to be the least with a sign)");
        ROWS.one(052, ANY, 0x7FFE, 0x7FFF, "000-");
        ROWS.one(052, ANY, 0x7FFF, 0x8000, "101-");
        ROWS.one(052, ANY, 0x8000, 0x8001, "100-");
        ROWS.one(052, ANY, 0xFFFE, 0xFFFF, "100-");
        ROWS.one(052, ANY, 0xFFFF, 0x0000, "010-");
        ROWS.one(052, ANY, 0x0000, 0x0001, "000-");
        ROWS.oneOfWords(052, ANY, 0x007F, 0x0080, "000-");
        ROWS.oneOfWords(052, ANY, 0x00FF, 0x0100, "000-");
    }

    private static void oneLess() {
        CHECK.sentence(SECTION, "0053 one less (V: the greatest)");
        ROWS.one(053, ANY, 0x8001, 0x8000, "100-");
        ROWS.one(053, ANY, 0x8000, 0x7FFF, "001-");
        ROWS.one(053, ANY, 0x7FFF, 0x7FFE, "000-");
        ROWS.one(053, ANY, 0x0002, 0x0001, "000-");
        ROWS.one(053, ANY, 0x0001, 0x0000, "010-");
        ROWS.one(053, ANY, 0x0000, 0xFFFF, "100-");
        ROWS.oneOfWords(053, ANY, 0x0080, 0x007F, "000-");
        ROWS.oneOfWords(053, ANY, 0x0100, 0x00FF, "000-");
    }

    private static void minus() {
        CHECK.sentence(SECTION, "0054 minus (V: the least; C: it is not 0)");
        ROWS.one(054, ANY, 0x0000, 0x0000, "0100");
        ROWS.one(054, ANY, 0x0001, 0xFFFF, "1001");
        ROWS.one(054, ANY, 0xFFFF, 0x0001, "0001");
        ROWS.one(054, ANY, 0x7FFF, 0x8001, "1001");
        ROWS.one(054, ANY, 0x8000, 0x8000, "1011");
        ROWS.one(054, ANY, 0x8001, 0x7FFF, "0001");
        ROWS.oneOfWords(054, ANY, 0x0080, 0xFF80, "1001");
    }

    private static void carryMore() {
        CHECK.sentence(SECTION, "0055 C more (V: it was the greatest, and C; C: it was all ones, and C)");
        ROWS.one(055, WITH_C, 0x7FFE, 0x7FFF, "0000");
        ROWS.one(055, WITH_C, 0x7FFF, 0x8000, "1010");
        ROWS.one(055, WITH_C, 0x8000, 0x8001, "1000");
        ROWS.one(055, WITH_C, 0xFFFE, 0xFFFF, "1000");
        ROWS.one(055, WITH_C, 0xFFFF, 0x0000, "0101");
        ROWS.one(055, WITH_C, 0x0000, 0x0001, "0000");
        ROWS.oneOfWords(055, WITH_C, 0x007F, 0x0080, "0000");
        ROWS.oneOfWords(055, WITH_C, 0x00FF, 0x0100, "0000");
    }

    private static void noCarryMore() {
        CHECK.sentence(SECTION, "V: it was the greatest, and C; C: it was all ones, and C");
        ROWS.one(055, WITHOUT_C, 0x7FFE, 0x7FFE, "0000");
        ROWS.one(055, WITHOUT_C, 0x7FFF, 0x7FFF, "0000");
        ROWS.one(055, WITHOUT_C, 0x8000, 0x8000, "1000");
        ROWS.one(055, WITHOUT_C, 0xFFFE, 0xFFFE, "1000");
        ROWS.one(055, WITHOUT_C, 0xFFFF, 0xFFFF, "1000");
        ROWS.one(055, WITHOUT_C, 0x0000, 0x0000, "0100");
    }

    private static void carryLess() {
        CHECK.sentence(SECTION, "0056 C less (V: it was the least, and C; C: it was 0, and C)");
        ROWS.one(056, WITH_C, 0x8001, 0x8000, "1000");
        ROWS.one(056, WITH_C, 0x8000, 0x7FFF, "0010");
        ROWS.one(056, WITH_C, 0x7FFF, 0x7FFE, "0000");
        ROWS.one(056, WITH_C, 0x0002, 0x0001, "0000");
        ROWS.one(056, WITH_C, 0x0001, 0x0000, "0100");
        ROWS.one(056, WITH_C, 0x0000, 0xFFFF, "1001");
        ROWS.one(056, WITH_C, 0xFFFF, 0xFFFE, "1000");
        ROWS.oneOfWords(056, WITH_C, 0x0080, 0x007F, "0000");
        ROWS.oneOfWords(056, WITH_C, 0x0100, 0x00FF, "0000");
    }

    private static void noCarryLess() {
        CHECK.sentence(SECTION, "V: it was the least, and C; C: it was 0, and C");
        ROWS.one(056, WITHOUT_C, 0x8001, 0x8001, "1000");
        ROWS.one(056, WITHOUT_C, 0x8000, 0x8000, "1000");
        ROWS.one(056, WITHOUT_C, 0x7FFF, 0x7FFF, "0000");
        ROWS.one(056, WITHOUT_C, 0x0001, 0x0001, "0000");
        ROWS.one(056, WITHOUT_C, 0x0000, 0x0000, "0100");
        ROWS.one(056, WITHOUT_C, 0xFFFF, 0xFFFF, "1000");
    }

    private static void test() {
        CHECK.sentence(SECTION, "0057 test (V, C 0)");
        ROWS.one(057, ANY, 0x0000, 0x0000, "0100");
        ROWS.one(057, ANY, 0x0001, 0x0001, "0000");
        ROWS.one(057, ANY, 0x7FFF, 0x7FFF, "0000");
        ROWS.one(057, ANY, 0x8000, 0x8000, "1000");
        ROWS.one(057, ANY, 0xFFFF, 0xFFFF, "1000");
        ROWS.oneOfWords(057, ANY, 0x0100, 0x0100, "0000");
        ROWS.oneOfWords(057, ANY, 0x0080, 0x0080, "0000");
    }

    private static void downWithCarry() {
        CHECK.sentence(SECTION, "0060 down with C as highest bit");
        ROWS.one(060, WITHOUT_C, 0x0000, 0x0000, "0100");
        ROWS.one(060, WITHOUT_C, 0x0001, 0x0000, "0111");
        ROWS.one(060, WITHOUT_C, 0x0002, 0x0001, "0000");
        ROWS.one(060, WITHOUT_C, 0x0003, 0x0001, "0011");
        ROWS.one(060, WITHOUT_C, 0x8000, 0x4000, "0000");
        ROWS.one(060, WITHOUT_C, 0x8001, 0x4000, "0011");
        ROWS.one(060, WITHOUT_C, 0xFFFF, 0x7FFF, "0011");
        ROWS.one(060, WITH_C, 0x0000, 0x8000, "1010");
        ROWS.one(060, WITH_C, 0x0001, 0x8000, "1001");
        ROWS.one(060, WITH_C, 0x0002, 0x8001, "1010");
        ROWS.one(060, WITH_C, 0xFFFE, 0xFFFF, "1010");
        ROWS.one(060, WITH_C, 0xFFFF, 0xFFFF, "1001");
        ROWS.oneOfWords(060, WITHOUT_C, 0x0100, 0x0080, "0000");
    }

    private static void upWithCarry() {
        CHECK.sentence(SECTION, "0061 up with C as lowest bit");
        ROWS.one(061, WITHOUT_C, 0x0000, 0x0000, "0100");
        ROWS.one(061, WITHOUT_C, 0x0001, 0x0002, "0000");
        ROWS.one(061, WITHOUT_C, 0x3FFF, 0x7FFE, "0000");
        ROWS.one(061, WITHOUT_C, 0x4000, 0x8000, "1010");
        ROWS.one(061, WITHOUT_C, 0x7FFF, 0xFFFE, "1010");
        ROWS.one(061, WITHOUT_C, 0x8000, 0x0000, "0111");
        ROWS.one(061, WITHOUT_C, 0xC000, 0x8000, "1001");
        ROWS.one(061, WITHOUT_C, 0xFFFF, 0xFFFE, "1001");
        ROWS.one(061, WITH_C, 0x0000, 0x0001, "0000");
        ROWS.one(061, WITH_C, 0x4000, 0x8001, "1010");
        ROWS.one(061, WITH_C, 0x8000, 0x0001, "0011");
        ROWS.one(061, WITH_C, 0x7FFF, 0xFFFF, "1010");
        ROWS.one(061, WITH_C, 0xFFFF, 0xFFFF, "1001");
        ROWS.oneOfWords(061, WITHOUT_C, 0x0080, 0x0100, "0000");
    }

    private static void downWithSign() {
        CHECK.sentence(SECTION, "0062 down with the sign kept");
        ROWS.one(062, ANY, 0x0000, 0x0000, "0100");
        ROWS.one(062, ANY, 0x0001, 0x0000, "0111");
        ROWS.one(062, ANY, 0x0002, 0x0001, "0000");
        ROWS.one(062, ANY, 0x0003, 0x0001, "0011");
        ROWS.one(062, ANY, 0x7FFE, 0x3FFF, "0000");
        ROWS.one(062, ANY, 0x7FFF, 0x3FFF, "0011");
        ROWS.one(062, ANY, 0x8000, 0xC000, "1010");
        ROWS.one(062, ANY, 0x8001, 0xC000, "1001");
        ROWS.one(062, ANY, 0xFFFE, 0xFFFF, "1010");
        ROWS.one(062, ANY, 0xFFFF, 0xFFFF, "1001");
        ROWS.oneOfWords(062, ANY, 0x0080, 0x0040, "0000");
        ROWS.oneOfWords(062, ANY, 0x0100, 0x0080, "0000");
    }

    private static void up() {
        CHECK.sentence(SECTION, "0063 up; of these four C is the bit that went, V: N and C differ");
        ROWS.one(063, ANY, 0x0000, 0x0000, "0100");
        ROWS.one(063, ANY, 0x0001, 0x0002, "0000");
        ROWS.one(063, ANY, 0x3FFF, 0x7FFE, "0000");
        ROWS.one(063, ANY, 0x4000, 0x8000, "1010");
        ROWS.one(063, ANY, 0x7FFF, 0xFFFE, "1010");
        ROWS.one(063, ANY, 0x8000, 0x0000, "0111");
        ROWS.one(063, ANY, 0xBFFF, 0x7FFE, "0011");
        ROWS.one(063, ANY, 0xC000, 0x8000, "1001");
        ROWS.one(063, ANY, 0xFFFF, 0xFFFE, "1001");
        ROWS.oneOfWords(063, ANY, 0x0080, 0x0100, "0000");
    }

    private static void ofBytes() {
        CHECK.sentence(SECTION, "each then six bits; with 0100000 more of bytes");
        ROWS.oneOfBytes(051, ANY, 0x5A, 0xA5, "1001");
        ROWS.oneOfBytes(052, ANY, 0x7F, 0x80, "101-");
        ROWS.oneOfBytes(053, ANY, 0x80, 0x7F, "001-");
        ROWS.oneOfBytes(054, ANY, 0x80, 0x80, "1011");
        ROWS.oneOfBytes(060, WITH_C, 0x10, 0x88, "1010");
        ROWS.oneOfBytes(061, WITH_C, 0x88, 0x11, "0011");
        ROWS.oneOfBytes(062, ANY, 0x90, 0xC8, "1010");
        ROWS.oneOfBytes(063, ANY, 0x08, 0x10, "0000");
    }

    private static void exchange() {
        CHECK.sentence(SECTION, "both bytes exchanged (N, Z by the lower one, V, C 0)");
        ROWS.oneOfWords(003, ANY, 0x1234, 0x3412, "0000");
        ROWS.oneOfWords(003, ANY, 0x0000, 0x0000, "0100");
        ROWS.oneOfWords(003, ANY, 0x00FF, 0xFF00, "0100");
        ROWS.oneOfWords(003, ANY, 0x0080, 0x8000, "0100");
        ROWS.oneOfWords(003, ANY, 0x0100, 0x0001, "0000");
        ROWS.oneOfWords(003, ANY, 0x7F80, 0x807F, "0000");
        ROWS.oneOfWords(003, ANY, 0x8000, 0x0080, "1000");
        ROWS.oneOfWords(003, ANY, 0x807F, 0x7F80, "1000");
        ROWS.oneOfWords(003, ANY, 0xFFFF, 0xFFFF, "1000");
        ROWS.oneOfWords(003, ANY, 0xFF00, 0x00FF, "1000");
        new Scene(CHECK, "PLACE exchanged").code(0x0200, 000307).thenFlags(0).done(0x0202);
        new Scene(CHECK, "PLACE exchanged").code(0x0100, 000307).thenFlags(0).done(0x0201);
    }

    private static void spreadSign() {
        CHECK.sentence(SECTION, "0067 and six bits: all ones if N, else 0 (Z by that, V 0, N stays).");
        for (int x : new int[] {0, 1, 0x7FFF, 0x8000, 0xFFFF}) {
            ROWS.oneOfWords(067, "1---", x, 0xFFFF, "100-");
            ROWS.oneOfWords(067, "0---", x, 0x0000, "010-");
        }
        new Scene(CHECK, "0067 at an odd place").code(100, 006711).register(1, 501).faulty(Scene.ODD);
        new Scene(CHECK, "0067 with 0100000 more").code(100, 0106700).faulty(Scene.UNKNOWN);
    }
}
