/** '3 INSTRUCTIONS', those that lead PLACE elsewhere, flags by name, HALT, and what is UNKNOWN. */
public final class WaysOfPlaceTest {
    private static final Check CHECK = new Check();
    private static final String SECTION = "3 INSTRUCTIONS";
    private static final int N = 8;
    private static final int Z = 4;
    private static final int V = 2;
    private static final int C = 1;

    public static void main(String[] args) {
        branches();
        branchDistances();
        jumpByEachWay();
        jumpAnywhere();
        jumpToARegister();
        callByEachWay();
        callOfEachRegister();
        callOfARegister();
        returns();
        returnOfEachRegister();
        callAndReturn();
        flagsToZero();
        flagsToOne();
        halt();
        unknown();
        unknownLeavesAll();
        CHECK.end();
    }

    private static Scene scene(String what) {
        return new Scene(CHECK, what);
    }

    private interface Condition {
        boolean holds(boolean n, boolean z, boolean v, boolean c);
    }

    private static void branch(String words, int code, Condition condition) {
        CHECK.sentence(SECTION, words);
        for (int flags = 0; flags < 16; flags++) {
            boolean goes = condition.holds((flags & N) != 0, (flags & Z) != 0, (flags & V) != 0, (flags & C) != 0);
            for (int b : new int[] {0, 1, 0177, 0200, 0201, 0377}) {
                scene(Check.octal(code | b) + " with flags " + flags).code(1000, code | b).flags(flags)
                        .done(goes ? 1002 + 2 * (byte) b : 1002);
            }
        }
    }

    private static void branches() {
        branch("0004 always", 0000400, (n, z, v, c) -> true);
        branch("0010 not Z", 0001000, (n, z, v, c) -> !z);
        branch("0014 Z", 0001400, (n, z, v, c) -> z);
        branch("0020 N is V", 0002000, (n, z, v, c) -> n == v);
        branch("0024 it is not", 0002400, (n, z, v, c) -> n != v);
        branch("0030 neither Z nor that N is not V", 0003000, (n, z, v, c) -> !z && n == v);
        branch("0034 one of these", 0003400, (n, z, v, c) -> z || n != v);
        branch("01000 not N", 0100000, (n, z, v, c) -> !n);
        branch("01004 N", 0100400, (n, z, v, c) -> n);
        branch("01010 neither C nor Z", 0101000, (n, z, v, c) -> !c && !z);
        branch("01014 C or Z", 0101400, (n, z, v, c) -> c || z);
        branch("01020 not V", 0102000, (n, z, v, c) -> !v);
        branch("01024 V", 0102400, (n, z, v, c) -> v);
        branch("01030 not C", 0103000, (n, z, v, c) -> !c);
        branch("01034 C (these are the words without b, in steps of 0400)", 0103400, (n, z, v, c) -> c);
    }

    private static void branchDistances() {
        CHECK.sentence(SECTION, "Branches, by a byte b with a sign: PLACE and 2 b");
        for (int b = 0; b < 256; b++) {
            scene("branch by " + b).code(1000, 000400 | b).done(1002 + 2 * (b < 128 ? b : b - 256));
        }
        // a branch looks at nothing: where there is no word, the next instruction has the fault
        scene("beyond the end").code(4000, 000577).done(4002 + 254);
        scene("below 0").code(0, 000776).done(65534);
    }

    /** Way by way: register 2 before and behind, and where PLACE is then. */
    private static final int[] WAYS = {1, 700, 700, 700, 2, 700, 702, 700, 3, 300, 302, 700, 4, 702, 700, 700,
        5, 302, 300, 700, 6, 600, 600, 700, 7, 200, 200, 700};

    private static void jumpByEachWay() {
        CHECK.sentence(SECTION, "0001 and six bits: PLACE is where the operand is");
        for (int flags = 0; flags < 16; flags += 5) {
            for (int i = 0; i < WAYS.length; i += 4) {
                scene("jump by way " + WAYS[i]).code(100, 000102 | WAYS[i] << 3, 100).register(2, WAYS[i + 1])
                        .words(300, 700).flags(flags).thenRegister(2, WAYS[i + 2]).done(WAYS[i + 3]);
            }
        }
        scene("by 6 that grows").code(100, 000126).register(6, 700).thenRegister(6, 702).done(700);
        scene("to PLACE").code(100, 000117).done(102);
        scene("to PLACE, which grows, too").code(100, 000127).done(102);
        scene("to PLACE, which shrinks").code(100, 000147).done(100);
        scene("to what the next word tells").code(100, 000137, 700).done(700);
        scene("from PLACE on").code(100, 000167, 700).done(804);
        scene("from PLACE on, told").code(100, 000177, 300 - 104).words(300, 700).done(700);
    }

    private static void jumpAnywhere() {
        CHECK.sentence(SECTION, "PLACE is where the operand is");
        for (int place : new int[] {0, 1, 4093, 4094, 4095, 4096, 4097, 65534, 65535}) {
            scene("jump to " + place).code(100, 000112).register(2, place).done(place);
            scene("jump by what tells " + place).code(100, 000137, place).done(place);
            scene("call to " + place).code(100, 004512).register(2, place)
                    .thenWords(1998, 0x6665).thenRegister(5, 102).thenRegister(6, 1998).done(place);
        }
    }

    private static void jumpToARegister() {
        CHECK.sentence(SECTION, "(way 0: UNKNOWN)");
        for (int r = 0; r < 8; r++) {
            scene("jump to register " + r).code(100, 000100 | r).flags(15).faulty(Scene.UNKNOWN);
        }
        scene("jump at register 0").code(100, 000110).register(0, 700).done(700);
    }

    private static void callByEachWay() {
        CHECK.sentence(SECTION, "004 r and six bits: likewise, but before r is put on the stack (6 shrinks by 2) and becomes PLACE.");
        for (int i = 0; i < WAYS.length; i += 4) {
            int behind = WAYS[i] >= 6 ? 104 : 102;
            for (int flags = 0; flags < 16; flags += 5) {
                scene("call by way " + WAYS[i]).code(100, 004502 | WAYS[i] << 3, 100).register(2, WAYS[i + 1])
                        .words(300, 700).register(5, 0x55AA).flags(flags)
                        .thenRegister(2, WAYS[i + 2]).thenRegister(5, behind).thenRegister(6, 1998)
                        .thenWords(1998, 0x55AA).done(WAYS[i + 3]);
            }
            scene("call by way " + WAYS[i] + " with PLACE").code(100, 004702 | WAYS[i] << 3, 100)
                    .register(2, WAYS[i + 1]).words(300, 700)
                    .thenRegister(2, WAYS[i + 2]).thenRegister(6, 1998).thenWords(1998, behind).done(WAYS[i + 3]);
        }
        scene("the stack to the first word").code(100, 004737, 700).register(6, 2)
                .thenRegister(6, 0).thenWords(0, 104).done(700);
        scene("the stack below the first word").code(100, 004737, 700).register(6, 0).faulty(Scene.NONE);
        scene("the stack from behind the last word").code(100, 004737, 700).register(6, 4096)
                .thenRegister(6, 4094).thenWords(4094, 104).thenTold(104).done(700);
        scene("the stack beyond the last word").code(100, 004737, 700).register(6, 4098).faulty(Scene.NONE);
        scene("an odd stack").code(100, 004737, 700).register(6, 1001).faulty(Scene.ODD);
        scene("by the stack, which grows before it shrinks").code(100, 004736).words(2000, 700)
                .thenWords(2000, 102).done(700);
        scene("by the stack's own word").code(100, 004726).register(6, 700).thenWords(700, 102).done(700);
    }

    private static void callOfEachRegister() {
        CHECK.sentence(SECTION, "before r is put on the stack (6 shrinks by 2) and becomes PLACE");
        for (int r = 0; r < 6; r++) {
            scene("call with register " + r).code(100, 004037 | r << 6, 700).register(r, 0x55A0 + r)
                    .thenRegister(r, 104).thenRegister(6, 1998).thenWords(1998, 0x55A0 + r).done(700);
            scene("call with register " + r + ", which grows, too").code(100, 004020 | r << 6 | r).register(r, 700)
                    .thenRegister(r, 102).thenRegister(6, 1998).thenWords(1998, 702).done(700);
        }
        // the document leaves open which 6 it is; here it is what it was before it shrinks
        scene("call with register 6").code(100, 004637, 700).thenRegister(6, 104).thenWords(1998, 2000).done(700);
    }

    private static void callOfARegister() {
        CHECK.sentence(SECTION, "likewise");
        for (int r = 0; r < 8; r++) {
            for (int six = 0; six < 8; six++) {
                scene("call of register " + six + " with " + r).code(100, 004000 | r << 6 | six).flags(15)
                        .faulty(Scene.UNKNOWN);
            }
        }
    }

    private static void returns() {
        CHECK.sentence(SECTION, "00020 r: PLACE is r, then a word is taken from the stack (6 grows by 2), and r is that.");
        for (int flags = 0; flags < 16; flags++) {
            scene("return").code(100, 000205).register(5, 700).words(2000, 0x55AA).flags(flags)
                    .thenRegister(5, 0x55AA).thenRegister(6, 2002).done(700);
        }
        for (int place : new int[] {0, 1, 4095, 4096, 65535}) {
            scene("return to " + place).code(100, 000205).register(5, place).words(2000, 0x55AA)
                    .thenRegister(5, 0x55AA).thenRegister(6, 2002).done(place);
        }
        scene("from the first word").code(100, 000205).register(6, 0).words(0, 7)
                .thenRegister(5, 7).thenRegister(6, 2).done(0x6665);
        scene("from the last word").code(100, 000205).register(6, 4094).words(4094, 7)
                .thenRegister(5, 7).thenRegister(6, 4096).done(0x6665);
        scene("from beyond the last word").code(100, 000205).register(6, 4096).faulty(Scene.NONE);
        scene("from an odd stack").code(100, 000205).register(6, 4093).faulty(Scene.ODD);
        scene("from below the first word").code(100, 000205).register(6, 65534).faulty(Scene.NONE);
    }

    private static void returnOfEachRegister() {
        CHECK.sentence(SECTION, "PLACE is r, then a word is taken from the stack (6 grows by 2), and r is that");
        for (int r = 0; r < 6; r++) {
            scene("return with register " + r).code(100, 000200 | r).register(r, 700).words(2000, 0x55AA)
                    .thenRegister(r, 0x55AA).thenRegister(6, 2002).done(700);
        }
        scene("return with 7").code(100, 000207).words(2000, 700).thenRegister(6, 2002).done(700);
        scene("return with 6").code(100, 000206).words(2000, 0x55AA).thenRegister(6, 0x55AA).done(2000);
    }

    private static void callAndReturn() {
        CHECK.sentence("What it is", "ways into parts and back");
        WordGuest x = new WordGuest();
        Check.pokeAll(x, 100, 004537, 700, 005200);
        Check.pokeAll(x, 700, 004737, 800, 000205);
        Check.pokeAll(x, 800, 005201, 000207);
        x.put(5, 0x55AA);
        x.put(6, 2000);
        x.put(7, 100);
        CHECK.same("two deep, and back", x.run(6), 0);
        CHECK.registers("two deep, and back", x, 1, 1, 0, 0, 0, 0x55AA, 2000, 106);
        CHECK.same("the first on the stack", x.word(1998), 0x55AA);
        CHECK.same("the second on the stack", x.word(1996), 704);
    }

    private static void flagsToZero() {
        CHECK.sentence(SECTION, "000240 and four bits: these flags are 0");
        for (int bits = 0; bits < 16; bits++) {
            for (int flags = 0; flags < 16; flags++) {
                scene("flags " + bits + " of " + flags).code(100, 000240 | bits).flags(flags).thenFlags(flags & ~bits).done(102);
            }
        }
        scene("0237").code(100, 000237).flags(15).faulty(Scene.UNKNOWN);
    }

    private static void flagsToOne() {
        CHECK.sentence(SECTION, "000260: 1.");
        for (int bits = 0; bits < 16; bits++) {
            for (int flags = 0; flags < 16; flags++) {
                scene("flags " + bits + " of " + flags).code(100, 000260 | bits).flags(flags).thenFlags(flags | bits).done(102);
            }
        }
        scene("0300 is another one").code(100, 000300).flags(15).register(0, 0).thenFlags(Z).done(102);
    }

    private static void halt() {
        CHECK.sentence(SECTION, "0: HALT.");
        for (int flags = 0; flags < 16; flags++) {
            scene("HALT").code(100, 0).flags(flags).halted(102);
        }
        scene("HALT at the first place").code(0, 0).halted(2);
        scene("HALT at the last place").code(4094, 0).halted(4096);
        scene("1").code(100, 1).faulty(Scene.UNKNOWN);
        scene("0100000 is no HALT").code(100, 0100000).done(102);
    }

    /** From and to (both included): all codes that the document does not tell. */
    private static final int[] UNKNOWN = {
        0000001, 0000107, // jump by way 0 among them
        0000210, 0000237, 0006400, 0006677, 0007000, 0007777,
        0073000, 0073777, 0075000, 0076777,
        0104000, 0104777, 0106400, 0107777, 0170000, 0177777};

    private static boolean isUnknown(int code) {
        for (int i = 0; i < UNKNOWN.length; i += 2) {
            if (code >= UNKNOWN[i] && code <= UNKNOWN[i + 1]) {
                return true;
            }
        }
        boolean callOfRegister = (code & 0177070) == 0004000;
        boolean quotientIntoOdd = (code & 0177100) == 0071100;
        return callOfRegister || quotientIntoOdd;
    }

    private static void unknown() {
        CHECK.sentence(SECTION, "All others are UNKNOWN.");
        for (int code = 0; code < 65536; code++) {
            WordGuest x = new WordGuest();
            x.poke(1000, code);
            for (int k = 0; k < 7; k++) {
                x.put(k, 600 + 100 * k);
            }
            x.put(7, 1000);
            x.flag(code);
            int answer = x.run(1);
            CHECK.same("unknown is " + Check.octal(code), answer == Scene.UNKNOWN, isUnknown(code));
            CHECK.same("HALT is " + Check.octal(code), answer == Scene.HALTED, code == 0);
            if (isUnknown(code)) {
                CHECK.registers(Check.octal(code), x, 600, 700, 800, 900, 1000, 1100, 1200, 1000);
                CHECK.same(Check.octal(code) + ": flags", x.flags(), code & 15);
                CHECK.same(Check.octal(code) + ": steps", x.steps(), 0);
            }
        }
    }

    private static void unknownLeavesAll() {
        CHECK.sentence(SECTION, "All others are UNKNOWN.");
        for (int i = 0; i < UNKNOWN.length; i++) {
            scene(Check.octal(UNKNOWN[i])).code(100, UNKNOWN[i], 7).register(2, 700).flags(10).faulty(Scene.UNKNOWN);
        }
        // their neighbours are told
        int[] told = {0000110, 0000240, 0000300, 0006300, 0006700, 0010000, 0072700, 0074000, 0074700, 0077000, 0100000,
            0103700, 0105000, 0106300, 0110000, 0160000};
        for (int code : told) {
            WordGuest x = new WordGuest();
            x.poke(100, code);
            x.put(7, 100);
            CHECK.same(Check.octal(code), x.run(1), 0);
        }
    }
}
