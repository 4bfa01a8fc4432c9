/** 'PORTS': what instructions write at 4094 is told as output. */
public final class PortsTest {
    private static final Check CHECK = new Check();
    private static final String SECTION = "PORTS";
    private static final int PORT = 4094;

    public static void main(String[] args) {
        words();
        bytes();
        placesBeside();
        byEachInstruction();
        readingTellsNothing();
        byTheStack();
        fromOutside();
        first400();
        first400OfBytes();
        behindTheWrite();
        clearedAndFullAgain();
        CHECK.end();
    }

    private static Scene scene(String what) {
        return new Scene(CHECK, what);
    }

    private static void words() {
        CHECK.sentence(SECTION, "a word or byte written at 4094 is told as OUTPUT as well");
        for (int v : new int[] {0, 1, 0x00FF, 0x0100, 0x7FFF, 0x8000, 0xFFFF}) {
            int flags = v == 0 ? 4 : v >= 0x8000 ? 8 : 0;
            scene("word " + v).code(100, 010110).register(1, v).register(0, PORT).words(PORT, 0x1234)
                    .thenWords(PORT, v).thenTold(v).thenFlags(flags).done(102);
        }
        scene("the same word again").code(100, 010110).register(1, 0x1234).register(0, PORT).words(PORT, 0x1234)
                .thenTold(0x1234).thenFlags(0).done(102);
    }

    private static void bytes() {
        CHECK.sentence(SECTION, "a byte without sign");
        for (int v : new int[] {0, 1, 0x7F, 0x80, 0x81, 0xFF}) {
            int flags = v == 0 ? 4 : v >= 0x80 ? 8 : 0;
            scene("byte " + v).code(100, 0110110).register(1, 0x5500 | v).register(0, PORT).words(PORT, 0x1234)
                    .thenWords(PORT, 0x1200 | v).thenTold(v).thenFlags(flags).done(102);
        }
    }

    private static void placesBeside() {
        CHECK.sentence(SECTION, "written at 4094");
        scene("word at 4092").code(100, 010110).register(1, 7).register(0, 4092).thenWords(4092, 7).thenFlags(0).done(102);
        scene("byte at 4093").code(100, 0110110).register(1, 7).register(0, 4093).thenWords(4092, 0x0700).thenFlags(0).done(102);
        scene("byte at 4095").code(100, 0110110).register(1, 7).register(0, 4095).thenWords(4094, 0x0700).thenFlags(0).done(102);
        scene("word at 4095").code(100, 010110).register(1, 7).register(0, 4095).faulty(Scene.ODD);
        scene("word at 4096").code(100, 010110).register(1, 7).register(0, 4096).faulty(Scene.NONE);
        scene("word at 0").code(100, 010110).register(1, 7).register(0, 0).thenWords(0, 7).thenFlags(0).done(102);
        scene("register that is 4094").code(100, 010102).register(1, PORT).thenRegister(2, PORT).thenFlags(0).done(102);
    }

    /** Register 1 is 3, register 4 is 5, the word at the port 6: what each instruction writes there. */
    private static void byEachInstruction() {
        CHECK.sentence(SECTION, "a word or byte written at 4094 is told as OUTPUT as well");
        int[] rows = {010110, 3, 040110, 4, 050110, 7, 060110, 9, 0160110, 3, 005010, 0, 005210, 7, 005310, 5,
            005510, 6, 005610, 6, 006010, 3, 006110, 12, 006210, 3, 006310, 12, 000310, 0x0600, 006710, 0, 074110, 5,
            005110, 0xFFF9, 005410, 0xFFFA};
        for (int i = 0; i < rows.length; i += 2) {
            toldBy(rows[i], rows[i + 1]);
        }
        int[] ofBytes = {0110110, 3, 0140110, 4, 0150110, 7, 0105010, 0, 0105210, 7, 0105310, 5, 0105510, 6, 0105610, 6,
            0106010, 3, 0106110, 12, 0106210, 3, 0106310, 12, 0105110, 0xF9, 0105410, 0xFA};
        for (int i = 0; i < ofBytes.length; i += 2) {
            toldBy(ofBytes[i], ofBytes[i + 1]);
        }
    }

    private static void toldBy(int code, int due) {
        WordGuest x = new WordGuest();
        x.poke(100, code);
        x.poke(PORT, 6);
        x.put(0, PORT);
        x.put(1, 3);
        x.put(7, 100);
        CHECK.same(Check.octal(code), x.run(1), 0);
        CHECK.same(Check.octal(code) + ": outputs", x.outputs(), 1);
        CHECK.same(Check.octal(code) + ": output(0)", x.output(0), due);
        CHECK.same(Check.octal(code) + ": word", x.word(PORT), due);
    }

    private static void readingTellsNothing() {
        CHECK.sentence(SECTION, "written at 4094");
        for (int code : new int[] {011001, 0111001, 020110, 0120110, 030110, 0130110, 005710, 0105710, 070210, 071210,
            072210, 000110, 000130, 013001}) {
            WordGuest x = new WordGuest();
            x.poke(100, code);
            x.poke(PORT, 6);
            x.put(0, PORT);
            x.put(7, 100);
            CHECK.same(Check.octal(code), x.run(1), 0);
            CHECK.same(Check.octal(code) + ": outputs", x.outputs(), 0);
            CHECK.same(Check.octal(code) + ": word", x.word(PORT), 6);
        }
        scene("an instruction that stands there").code(PORT, 000240).done(4096);
    }

    private static void byTheStack() {
        CHECK.sentence(SECTION, "a word or byte written at 4094 is told as OUTPUT as well");
        scene("by a call").code(100, 004737, 700).register(6, 4096)
                .thenWords(PORT, 104).thenTold(104).thenRegister(6, PORT).done(700);
        scene("by a way that shrinks").code(100, 010146).register(1, 7).register(6, 4096)
                .thenWords(PORT, 7).thenTold(7).thenRegister(6, PORT).thenFlags(0).done(102);
        scene("a byte by a way that shrinks").code(100, 0110146).register(1, 0x1287).register(6, 4096)
                .thenWords(PORT, 0x87).thenTold(0x87).thenRegister(6, PORT).thenFlags(8).done(102);
    }

    private static void fromOutside() {
        CHECK.sentence("Promise 4", "A word of memory becomes another one: whether it is another.");
        WordGuest x = new WordGuest();
        CHECK.same("poke at the port", x.poke(PORT, 5), true);
        CHECK.same("poke tells nothing", x.outputs(), 0);
        CHECK.same("load at the port", x.load(PORT, 0x70008, 2, 3, 4, 5), 1);
        CHECK.same("load tells nothing", x.outputs(), 0);
        CHECK.same("but the word is there", x.word(PORT), 7);
        CHECK.throwsIndex("output(0)", () -> x.output(0));
    }

    /** Counts in register 0, and tells each number: three instructions for each. */
    private static WordGuest telling(int move) {
        WordGuest x = new WordGuest();
        Check.pokeAll(x, 0, 005200, move, PORT, 000774);
        return x;
    }

    private static void tells400(int move, int mask) {
        WordGuest x = telling(move);
        CHECK.same("run", x.run(3 * 398 + 2), 0);
        CHECK.same("399 outputs", x.outputs(), 399);
        CHECK.same("output(398)", x.output(398), 399 & mask);
        CHECK.throwsIndex("output(399) of 399", () -> x.output(399));
        CHECK.same("run", x.run(3), 0);
        CHECK.same("400 outputs", x.outputs(), 400);
        CHECK.same("output(399)", x.output(399), 400 & mask);
        CHECK.throwsIndex("output(400) of 400", () -> x.output(400));
        CHECK.same("run", x.run(3), 0);
        CHECK.same("401 are 400", x.outputs(), 400);
        CHECK.same("output(399) stays", x.output(399), 400 & mask);
        CHECK.same("output(0) stays", x.output(0), 1);
        CHECK.throwsIndex("output(400) of 401", () -> x.output(400));
        CHECK.same("the word is written all the same", x.word(PORT), 401 & mask);
        CHECK.same("run", x.run(3000), 0);
        CHECK.same("1401 are 400", x.outputs(), 400);
        for (int k = 0; k < 400; k++) {
            CHECK.same("output(" + k + ")", x.output(k), k + 1 & mask);
        }
        CHECK.same("the word is the latest", x.word(PORT), 1401 & mask);
    }

    private static void first400() {
        CHECK.sentence(SECTION, "the first 400");
        tells400(010037, 0xFFFF);
    }

    private static void first400OfBytes() {
        CHECK.sentence(SECTION, "the first 400; a byte without sign");
        tells400(0110037, 0xFF);
    }

    private static void behindTheWrite() {
        CHECK.sentence(SECTION, "behind the write");
        WordGuest x = new WordGuest();
        // a word, its lower byte, its higher byte, one more to the word, HALT
        Check.pokeAll(x, 0, 010037, PORT, 0110137, PORT, 0110137, PORT + 1, 005237, PORT, 0);
        x.put(0, 0xFEDC);
        x.put(1, 0x1299);
        CHECK.same("run", x.run(9), 1);
        CHECK.same("outputs", x.outputs(), 3);
        CHECK.same("in the order of the writes", x.output(0), 0xFEDC);
        CHECK.same("a byte alone", x.output(1), 0x99);
        CHECK.same("what was written, with what stood there", x.output(2), 0x999A);
        CHECK.same("the word", x.word(PORT), 0x999A);
        scene("a write that is a fault").code(100, 010110).register(1, 7).register(0, PORT + 1).faulty(Scene.ODD);
        scene("first told by the port, second a fault").code(100, 013021).register(0, PORT).words(PORT, 300)
                .register(1, 4096).faulty(Scene.NONE);
    }

    private static void clearedAndFullAgain() {
        CHECK.sentence("Promise 13", "All 0 again.");
        WordGuest x = telling(010037);
        x.run(3 * 399 + 2);
        CHECK.same("full", x.outputs(), 400);
        x.clear();
        CHECK.same("cleared", x.outputs(), 0);
        CHECK.throwsIndex("output(0)", () -> x.output(0));
        Check.pokeAll(x, 0, 005200, 010037, PORT, 000774);
        x.run(5000);
        CHECK.same("full again", x.outputs(), 400);
        CHECK.same("output(0)", x.output(0), 1);
        CHECK.same("output(399)", x.output(399), 400);
    }
}
