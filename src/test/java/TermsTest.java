/** 'What it is' and 'Terms': the ends of memory, bytes in words, numbers that go round, signs, faults. */
public final class TermsTest {
    private static final Check CHECK = new Check();
    private static final int ODD = Scene.ODD;
    private static final int NONE = Scene.NONE;
    private static final int UNKNOWN = Scene.UNKNOWN;
    private static final int DONE = Scene.DONE;
    private static final int N = 8;
    private static final int Z = 4;
    private static final int V = 2;
    private static final int C = 1;

    /** Places around both ends, and what a word and a byte at them is. */
    private static final int[] PLACES = {0, 1, 2, 3, 4091, 4092, 4093, 4094, 4095, 4096, 4097, 4098, 8192, 8193,
        32767, 32768, 65533, 65534, 65535};

    public static void main(String[] args) {
        memoryHas4096Bytes();
        lowerByteFirst();
        codeWritesOverItself();
        leavesAllAsItWas();
        registersAreWords();
        stackAndPlace();
        flagsAsBits();
        allZeroAtFirst();
        registersGoRound();
        placesGoRound();
        placeOfTheNextGoesRound();
        signOfAWord();
        signOfAByte();
        oddOwnWord();
        oddOperands();
        oddPointers();
        noIndexWord();
        oddStack();
        oddBeforeNone();
        firstFault();
        unknownBeforeOperands();
        faultLeavesRegisters();
        faultLeavesFlags();
        faultLeavesMemory();
        CHECK.end();
    }

    private static Scene scene(String what) {
        return new Scene(CHECK, what);
    }

    /** The document's order: odd goes first, and beyond 4095 is no place. */
    private static int faultOfWord(int place) {
        if (place % 2 == 1) {
            return ODD;
        }
        return place > 4095 ? NONE : DONE;
    }

    private static int faultOfByte(int place) {
        return place > 4095 ? NONE : DONE;
    }

    private static void memoryHas4096Bytes() {
        CHECK.sentence("What it is", "MEMORY has 4096 bytes");
        scene("word at 0").code(100, 010110).register(0, 0).register(1, 0x1234).thenWords(0, 0x1234).thenFlags(0).done(102);
        scene("word at 4092").code(100, 010110).register(0, 4092).register(1, 0x1234)
                .thenWords(4092, 0x1234).thenFlags(0).done(102);
        scene("word at 4094").code(100, 010110).register(0, 4094).register(1, 0x1234)
                .thenWords(4094, 0x1234).thenFlags(0).thenTold(0x1234).done(102);
        scene("word at 4096").code(100, 010110).register(0, 4096).register(1, 0x1234).faulty(NONE);
        scene("word at 65534").code(100, 010110).register(0, 65534).register(1, 0x1234).faulty(NONE);
        scene("byte at 0").code(100, 0110110).register(0, 0).register(1, 0x1234).thenWords(0, 0x34).thenFlags(0).done(102);
        scene("byte at 4093").code(100, 0110110).register(0, 4093).register(1, 0x1234)
                .thenWords(4092, 0x3400).thenFlags(0).done(102);
        scene("byte at 4095").code(100, 0110110).register(0, 4095).register(1, 0x1234)
                .thenWords(4094, 0x3400).thenFlags(0).done(102);
        scene("byte at 4096").code(100, 0110110).register(0, 4096).register(1, 0x1234).faulty(NONE);
        scene("byte at 4097").code(100, 0110110).register(0, 4097).register(1, 0x1234).faulty(NONE);
        scene("byte at 65535").code(100, 0110110).register(0, 65535).register(1, 0x1234).faulty(NONE);
        WordGuest x = new WordGuest();
        CHECK.same("poke at 0", x.poke(0, 1), true);
        CHECK.same("poke at 4094", x.poke(4094, 2), true);
        CHECK.throwsIndex("poke at 4096", () -> x.poke(4096, 3));
        CHECK.throwsIndex("poke at -2", () -> x.poke(-2, 3));
        CHECK.same("word(0)", x.word(0), 1);
        CHECK.same("word(4094)", x.word(4094), 2);
    }

    private static void lowerByteFirst() {
        CHECK.sentence("What it is", "words stand at even places with the lower byte first");
        for (int place : new int[] {0, 500, 4092, 4094}) {
            scene("lower byte read at " + place).code(100, 0111001).register(0, place).words(place, 0x7F12)
                    .thenRegister(1, 0x12).thenFlags(0).done(102);
            scene("higher byte read behind " + place).code(100, 0111001).register(0, place + 1).words(place, 0x7F12)
                    .thenRegister(1, 0x7F).thenFlags(0).done(102);
        }
        for (int place : new int[] {0, 500, 4092}) {
            scene("lower byte written at " + place).code(100, 0110110).register(0, place).register(1, 0x5678)
                    .words(place, 0x1234).thenWords(place, 0x1278).thenFlags(0).done(102);
            scene("higher byte written behind " + place).code(100, 0110110).register(0, place + 1).register(1, 0x5678)
                    .words(place, 0x1234).thenWords(place, 0x7834).thenFlags(0).done(102);
        }
        scene("no word at an odd place").code(100, 011001).register(0, 501).words(500, 0x7F12, 0x3456).faulty(ODD);
    }

    private static void codeWritesOverItself() {
        CHECK.sentence("What it is", "code that writes over itself");
        scene("its own word").code(100, 005047).thenWords(100, 0).thenFlags(Z).done(100);
        scene("its own second word, when it has been taken").code(100, 010167, 0xFFFE)
                .register(1, 0x1234).thenWords(102, 0x1234).thenFlags(0).done(104);
        scene("the next word").code(100, 005017, 005200).thenWords(102, 0).thenFlags(Z).done(102);
        WordGuest x = new WordGuest();
        Check.pokeAll(x, 0, 005037, 4, 005200);
        x.poke(4, 005200);
        CHECK.same("the next one becomes HALT", x.run(9), 1);
        CHECK.same("the next one becomes HALT: steps", x.steps(), 2);
        CHECK.same("the next one becomes HALT: not done as it was", x.register(0), 0);
        WordGuest y = new WordGuest();
        // one more to the number that stands in the first one; three times round
        Check.pokeAll(y, 0, 062701, 1, 005237, 2, 000773);
        CHECK.same("a number in the code", y.run(9), 0);
        CHECK.same("a number in the code: sum", y.register(1), 1 + 2 + 3);
        CHECK.same("a number in the code: word", y.word(2), 4);
    }

    private static void leavesAllAsItWas() {
        CHECK.sentence("What it is", "what cannot be done leaves all as it was");
        scene("first is good, second is not").code(100, 012021).register(0, 500).register(1, 4096)
                .words(500, 0x8000).flags(N | V).faulty(NONE);
        scene("no such instruction").code(100, 7).flags(15).faulty(UNKNOWN);
    }

    private static void registersAreWords() {
        CHECK.sentence("Terms", "REGISTERS 0 .. 7 are words");
        for (int r = 0; r < 7; r++) {
            scene("register " + r + " to 65535").code(100, 012700 | r, 0xFFFF)
                    .thenRegister(r, 0xFFFF).thenFlags(N).done(104);
            scene("register " + r + " to 0").code(100, 005000 | r).flags(15).thenRegister(r, 0).thenFlags(Z).done(102);
        }
        scene("register 7 to 65535").code(100, 012707, 0xFFFF).thenFlags(N).done(0xFFFF);
        scene("register 7 to 0").code(100, 005007).thenFlags(Z).done(0);
    }

    private static void stackAndPlace() {
        CHECK.sentence("Terms", "6 is the STACK's, 7 the PLACE of the next instruction");
        scene("6 at a call").code(100, 004537, 700).register(5, 0x55AA)
                .thenRegister(6, 1998).thenWords(1998, 0x55AA).thenRegister(5, 104).done(700);
        scene("6 at a return").code(100, 000205).register(5, 700).words(2000, 0x55AA)
                .thenRegister(6, 2002).thenRegister(5, 0x55AA).done(700);
        scene("7 tells which is next").words(100, 7).code(300, 005000).thenRegister(0, 0).thenFlags(Z).done(302);
        scene("7 at 0").code(0, 005000).thenRegister(0, 0).thenFlags(Z).done(2);
    }

    private static void flagsAsBits() {
        CHECK.sentence("Terms", "FLAGS N, Z, V, C (bits 3, 2, 1, 0 of a number)");
        // each comes by an instruction that makes it alone, and a branch that asks for it goes
        scene("N").code(100, 005700).register(0, 0x8000).thenFlags(8).done(102);
        scene("Z").code(100, 005700).register(0, 0).thenFlags(4).done(102);
        scene("V").code(100, 005300).register(0, 0x8000).thenRegister(0, 0x7FFF).thenFlags(2).done(102);
        scene("C").code(100, 005400).register(0, 0xFFFF).thenRegister(0, 1).thenFlags(1).done(102);
        int[] asking = {0100402, 001402, 0102402, 0103402};
        for (int i = 0; i < 4; i++) {
            scene("branch that goes").code(100, asking[i]).flags(8 >> i).done(106);
            scene("branch that does not").code(100, asking[i]).flags(15 ^ 8 >> i).done(102);
        }
    }

    private static void allZeroAtFirst() {
        CHECK.sentence("Terms", "All 0 at first.");
        WordGuest x = new WordGuest();
        CHECK.registers("new", x, 0, 0, 0, 0, 0, 0, 0, 0);
        CHECK.same("new: flags", x.flags(), 0);
        CHECK.same("new: what stands at PLACE is HALT", x.run(5000), 1);
        CHECK.registers("new, run", x, 0, 0, 0, 0, 0, 0, 0, 2);
        CHECK.same("new, run: flags", x.flags(), 0);
    }

    /** Jumps, for their operand is not looked at: a register may go round without a fault. */
    private static void registersGoRound() {
        CHECK.sentence("Terms", "A word's numbers go round (modulo 65536)");
        int[] grown = {65533, 65535, 65534, 0, 65535, 1, 0, 2};
        for (int i = 0; i < grown.length; i += 2) {
            scene(grown[i] + " grows").code(100, 000122).register(2, grown[i]).thenRegister(2, grown[i + 1]).done(grown[i]);
        }
        int[] shrunk = {3, 1, 2, 0, 1, 65535, 0, 65534};
        for (int i = 0; i < shrunk.length; i += 2) {
            scene(shrunk[i] + " shrinks").code(100, 000142).register(2, shrunk[i])
                    .thenRegister(2, shrunk[i + 1]).done(shrunk[i + 1]);
        }
        scene("one more than 65535").code(100, 005202).register(2, 65535).thenRegister(2, 0).thenFlags(Z).done(102);
        scene("one less than 0").code(100, 005302).register(2, 0).thenRegister(2, 65535).thenFlags(N).done(102);
        scene("077 of 0").code(100, 077201).register(2, 0).thenRegister(2, 65535).done(100);
        scene("the stack below 0").code(100, 004737, 700).register(6, 0).faulty(NONE);
        scene("the stack at 2").code(100, 004737, 700).register(6, 2).thenWords(0, 104).thenRegister(6, 0).done(700);
    }

    private static void placesGoRound() {
        CHECK.sentence("2 OPERANDS", "the word at PLACE (which grows by 2) and r then, added: at that");
        int[] sums = {65534, 4, 2, 65535, 3, 2, 2, 65534, 0, 1, 65535, 0, 4096, 61440, 0, 4094, 65536 - 4094, 0,
            32768, 32770, 2, 65534, 65534, 65532};
        for (int i = 0; i < sums.length; i += 3) {
            String what = sums[i] + " and " + sums[i + 1];
            int place = sums[i + 2];
            scene("jump to " + what).code(100, 000162, sums[i + 1]).register(2, sums[i]).done(place);
            if (place < 4096) {
                scene("word at " + what).code(100, 016201, sums[i + 1]).register(2, sums[i]).words(place, 0x0606)
                        .thenRegister(1, 0x0606).thenFlags(0).done(104);
                scene("byte at " + what).code(100, 0116201, sums[i + 1]).register(2, sums[i]).words(place, 0x0606)
                        .thenRegister(1, 6).thenFlags(0).done(104);
                scene("place told at " + what).code(100, 017201, sums[i + 1]).register(2, sums[i])
                        .words(place, 700).words(700, 0x0707).thenRegister(1, 0x0707).thenFlags(0).done(104);
            }
        }
        scene("65534 told by a sum").code(100, 016201, 65534).register(2, 0).faulty(NONE);
        scene("65535 told by a sum").code(100, 016201, 65535).register(2, 0).faulty(ODD);
        scene("byte at 65535 told by a sum").code(100, 0116201, 65535).register(2, 0).faulty(NONE);
    }

    private static void placeOfTheNextGoesRound() {
        CHECK.sentence("Terms", "A word's numbers go round (modulo 65536)");
        scene("branch to 0").code(0, 000777).done(0);
        scene("branch below 0").code(0, 000776).done(65534);
        scene("branch far below 0").code(0, 000600).done(65536 + 2 - 256);
        scene("077 to 0").code(0, 077201).register(2, 5).thenRegister(2, 4).done(0);
        scene("077 below 0").code(0, 077202).register(2, 5).thenRegister(2, 4).done(65534);
        scene("077 far below 0").code(0, 077277).register(2, 5).thenRegister(2, 4).done(65536 + 2 - 126);
        scene("behind the last word").code(4094, 000240).done(4096);
        scene("branch beyond the last word").code(4094, 000577).done(4096 + 254);
        scene("a sum into PLACE, not beyond").code(100, 062707, 65535 - 104).thenFlags(N).done(65535);
        scene("a sum into PLACE, beyond").code(100, 062707, 65536 - 104).thenFlags(Z | C).done(0);
    }

    private static void signOfAWord() {
        CHECK.sentence("Terms", "SIGN is its highest bit");
        int[] with = {0x8000, 0x8001, 0xFFFF, 0xC000};
        for (int x : with) {
            scene("sign of " + x).code(100, 005702).register(2, x).thenFlags(N).done(102);
        }
        int[] without = {0x7FFF, 0x7F80, 0x0080, 0x00FF, 0x4000, 1};
        for (int x : without) {
            scene("sign of " + x).code(100, 005702).register(2, x).flags(N).thenFlags(0).done(102);
        }
    }

    private static void signOfAByte() {
        CHECK.sentence("Terms", "(of a byte: bit 7)");
        int[] with = {0x80, 0x81, 0xFF, 0xC0, 0x7F80};
        for (int x : with) {
            scene("sign of byte " + x).code(100, 0105702).register(2, x).thenFlags(N).done(102);
        }
        int[] without = {0x7F, 0x40, 1, 0x807F, 0xFF01, 0x0101};
        for (int x : without) {
            scene("sign of byte " + x).code(100, 0105702).register(2, x).flags(N).thenFlags(0).done(102);
        }
    }

    private static void oddOwnWord() {
        CHECK.sentence("Terms", "ODD: a word at an odd place; else NONE: a place beyond 4095");
        for (int place : PLACES) {
            int fault = faultOfWord(place);
            if (fault == DONE) {
                scene("HALT at " + place).register(7, place).halted(place + 2);
            } else {
                scene("nothing at " + place).register(7, place).flags(15).faulty(fault);
            }
        }
    }

    /** Register 2 and what else is needed for an operand at this place, by a way from 1 on. */
    private static Scene operandAt(Scene scene, int way, int stride, int place) {
        switch (way) {
            case 4:
                return scene.register(2, place + stride);
            case 3:
                return scene.register(2, 300).words(300, place);
            case 5:
                return scene.register(2, 302).words(300, place);
            case 6:
                return scene.register(2, place - 200).words(102, 200);
            case 7:
                return scene.register(2, 100).words(102, 200).words(300, place);
            default:
                return scene.register(2, place);
        }
    }

    /** What register 2 is behind an operand at this place. */
    private static int behind(int way, int stride, int place) {
        int[] due = {0, place, place + stride, 302, place, 300, place - 200, 100};
        return due[way];
    }

    private static void oddOperands() {
        CHECK.sentence("Terms", "a word at an odd place; else NONE: a place beyond 4095");
        for (int way = 1; way < 8; way++) {
            for (int place : PLACES) {
                operandOf(010001 | way << 9 | 0200, way, 2, place, faultOfWord(place));
                operandOf(0110001 | way << 9 | 0200, way, 1, place, faultOfByte(place));
                operandOf(050102 | way << 3, way, 2, place, faultOfWord(place));
                operandOf(0150102 | way << 3, way, 1, place, faultOfByte(place));
                operandOf(005702 | way << 3, way, 2, place, faultOfWord(place));
                operandOf(0105702 | way << 3, way, 1, place, faultOfByte(place));
                operandOf(005002 | way << 3, way, 2, place, faultOfWord(place));
                operandOf(006702 | way << 3, way, 2, place, faultOfWord(place));
                operandOf(000302 | way << 3, way, 2, place, faultOfWord(place));
                operandOf(070402 | way << 3, way, 2, place, faultOfWord(place));
                operandOf(071402 | way << 3, way, 2, place, faultOfWord(place));
                operandOf(072402 | way << 3, way, 2, place, faultOfWord(place));
                operandOf(074402 | way << 3, way, 2, place, faultOfWord(place));
            }
        }
    }

    /** A fault leaves all; else only the answer and register 2 count here, not what is done. */
    private static void operandOf(int code, int way, int stride, int place, int fault) {
        String what = Check.octal(code) + " at " + place;
        if (fault != DONE) {
            operandAt(scene(what).code(100, code).flags(10), way, stride, place).faulty(fault);
            return;
        }
        WordGuest x = new WordGuest();
        x.poke(100, code);
        x.poke(102, 200);
        x.poke(300, place);
        int[] before = {0, place, place, 300, place + stride, 302, place - 200, 100};
        x.put(2, before[way]);
        x.put(7, 100);
        CHECK.same(what, x.run(1), DONE);
        CHECK.same(what + ": register 2", x.register(2), behind(way, stride, place) & 0xFFFF);
        CHECK.same(what + ": place", x.register(7), way >= 6 ? 104 : 102);
    }

    /** The word that tells a place is a word also for bytes, and at a jump. */
    private static void oddPointers() {
        CHECK.sentence("2 OPERANDS", "at the place that the word at r tells");
        for (int code : new int[] {010001, 0110001}) {
            for (int place : PLACES) {
                pointerAt(code | 03200, 3, place);
                pointerAt(code | 05200, 5, place);
                pointerAt(code | 07200, 7, place);
            }
        }
        for (int code : new int[] {050102, 0150102, 005202, 0105202, 000102, 004502, 074402}) {
            for (int place : PLACES) {
                pointerAt(code | 030, 3, place);
                pointerAt(code | 050, 5, place);
                pointerAt(code | 070, 7, place);
            }
        }
    }

    private static void pointerAt(int code, int way, int place) {
        String what = Check.octal(code) + " with a place told at " + place;
        int before = way == 5 ? place + 2 : place;
        int fault = faultOfWord(place);
        if (fault != DONE) {
            scene(what).code(100, code).register(2, before).flags(5).faulty(fault);
            return;
        }
        WordGuest x = new WordGuest();
        x.poke(100, code);
        x.poke(place, 700);
        x.put(2, before);
        x.put(6, 2000);
        x.put(7, 100);
        CHECK.same(what, x.run(1), DONE);
        CHECK.same(what + ": register 2", x.register(2), way == 3 ? place + 2 : place);
    }

    private static void noIndexWord() {
        CHECK.sentence("Terms", "NONE: a place beyond 4095");
        scene("its word at the end").code(4092, 016201, 100).register(2, 600).words(700, 5)
                .thenRegister(1, 5).thenFlags(0).done(4096);
        scene("its word beyond").code(4094, 016201).register(2, 600).faulty(NONE);
        scene("way 7, its word beyond").code(4094, 017201).register(2, 600).faulty(NONE);
        scene("of bytes, its word beyond").code(4094, 0116201).register(2, 600).faulty(NONE);
        scene("one operand, its word beyond").code(4094, 005062).register(2, 600).faulty(NONE);
        scene("way 2 by PLACE, its word beyond").code(4094, 012701).faulty(NONE);
        scene("way 3 by PLACE, its word beyond").code(4094, 013701).faulty(NONE);
        scene("jump, its word beyond").code(4094, 000162).faulty(NONE);
        scene("call, its word beyond").code(4094, 004767).faulty(NONE);
        scene("both words, the second at the end").code(4090, 016263, 100, 200).register(2, 600).register(3, 600)
                .words(700, 5).thenWords(800, 5).thenFlags(0).done(4096);
        scene("both words, the second beyond").code(4092, 016263, 100).register(2, 600).register(3, 600).faulty(NONE);
        scene("both words, the first beyond").code(4094, 016263).register(2, 600).register(3, 600).faulty(NONE);
    }

    private static void oddStack() {
        CHECK.sentence("Terms", "a word at an odd place; else NONE: a place beyond 4095");
        for (int place : PLACES) {
            int fault = faultOfWord(place);
            Scene call = scene("call to the stack at " + place).code(100, 004537, 700).register(6, place + 2);
            Scene back = scene("return from the stack at " + place).code(100, 000205).register(6, place);
            if (fault != DONE) {
                call.flags(15).faulty(fault);
                back.flags(15).faulty(fault);
                continue;
            }
            int[] told = place == 4094 ? new int[] {0x6665} : new int[] {};
            call.thenWords(place, 0x6665).thenRegister(5, 104).thenRegister(6, place).thenTold(told).done(700);
            back.words(place, 0x1234).thenRegister(5, 0x1234).thenRegister(6, place + 2).done(0x6665);
        }
    }

    private static void oddBeforeNone() {
        CHECK.sentence("Terms", "FAULTS: ODD: a word at an odd place; else NONE: a place beyond 4095");
        scene("4095").code(100, 005012).register(2, 4095).faulty(ODD);
        scene("4096").code(100, 005012).register(2, 4096).faulty(NONE);
        scene("4097").code(100, 005012).register(2, 4097).faulty(ODD);
        scene("65535").code(100, 005012).register(2, 65535).faulty(ODD);
        scene("byte at 4095").code(100, 0105012).register(2, 4095).thenFlags(Z).done(102);
        scene("byte at 4097").code(100, 0105012).register(2, 4097).faulty(NONE);
        scene("byte at 65535").code(100, 0105012).register(2, 65535).faulty(NONE);
        scene("own word at 4097").register(7, 4097).faulty(ODD);
    }

    private static void firstFault() {
        CHECK.sentence("2 OPERANDS", "then the first operand is read, then the second one's place found, and read");
        scene("first odd, second beyond").code(100, 012021).register(0, 301).register(1, 4096).faulty(ODD);
        scene("first beyond, second odd").code(100, 012021).register(0, 4096).register(1, 301).faulty(NONE);
        scene("first beyond, second's word odd").code(100, 012031).register(0, 4096).register(1, 301).faulty(NONE);
        scene("first odd, second's word beyond").code(100, 012031).register(0, 301).register(1, 4096).faulty(ODD);
        scene("told beyond, at an odd place").code(100, 013001).register(0, 301).words(300, 4096, 4096).faulty(ODD);
        scene("told odd, at a good place").code(100, 013001).register(0, 300).words(300, 301).faulty(ODD);
        scene("told beyond, at a good place").code(100, 013001).register(0, 300).words(300, 4096).faulty(NONE);
        scene("first odd, second's index beyond").code(4094, 011060).register(0, 301).faulty(ODD);
        scene("first good, second's index beyond").code(4094, 011060).register(0, 300).faulty(NONE);
        scene("first's index beyond, second odd").code(4094, 016011).register(0, 300).register(1, 301).faulty(NONE);
        scene("call, place told odd, stack beyond").code(100, 004530).register(0, 301).register(6, 0).faulty(ODD);
        scene("call, place told beyond, stack odd").code(100, 004530).register(0, 4096).register(6, 1).faulty(NONE);
        scene("call to an odd place, stack beyond").code(100, 004510).register(0, 301).register(6, 0).faulty(NONE);
    }

    private static void unknownBeforeOperands() {
        CHECK.sentence("Terms", "UNKNOWN: no such instruction");
        scene("quotient into odd, operand odd").code(100, 071110).register(0, 301).faulty(UNKNOWN);
        scene("quotient into odd, operand beyond").code(100, 071110).register(0, 4096).faulty(UNKNOWN);
        scene("quotient into odd, its word beyond").code(4094, 071160).faulty(UNKNOWN);
        scene("073 with an operand at an odd place").code(100, 073010).register(0, 301).faulty(UNKNOWN);
        scene("0106700 with an operand beyond").code(100, 0106710).register(0, 4096).faulty(UNKNOWN);
        scene("call of a register, stack odd").code(100, 004501).register(6, 1).faulty(UNKNOWN);
        scene("unknown at an odd place").words(100, 7).register(7, 101).faulty(ODD);
        scene("unknown at the end").code(4094, 7).faulty(UNKNOWN);
    }

    private static void faultLeavesRegisters() {
        CHECK.sentence("Terms", "An instruction with a fault leaves registers, flags and memory as before it.");
        scene("first has grown").code(100, 012021).register(0, 300).register(1, 4096).faulty(NONE);
        scene("first has shrunk").code(100, 014021).register(0, 300).register(1, 301).faulty(ODD);
        scene("first's word has been told").code(100, 013021).register(0, 300).words(300, 400).register(1, 301).faulty(ODD);
        scene("both have grown").code(100, 022021).register(0, 300).register(1, 301).faulty(ODD);
        scene("the same one has grown twice").code(100, 022020).register(0, 4094).faulty(NONE);
        scene("second has shrunk").code(100, 010041).register(1, 0).faulty(NONE);
        scene("both words behind taken").code(100, 016061, 0, 1).register(0, 300).register(1, 300).faulty(ODD);
        scene("6 has grown").code(100, 012611).register(1, 301).faulty(ODD);
        scene("7 has shrunk").code(100, 014711).register(1, 301).faulty(ODD);
        scene("call's operand has grown").code(100, 004523).register(3, 700).register(6, 1).faulty(ODD);
        scene("product's operand has grown").code(100, 070422).register(2, 4096).faulty(NONE);
        scene("return by 6").code(100, 000206).register(6, 4096).faulty(NONE);
        scene("return by 7").code(100, 000207).register(6, 4095).faulty(ODD);
    }

    private static void faultLeavesFlags() {
        CHECK.sentence("Terms", "An instruction with a fault leaves registers, flags and memory as before it.");
        for (int flags = 0; flags < 16; flags++) {
            for (int op : new int[] {01, 02, 03, 04, 05, 06, 011, 012, 013, 014, 015, 016}) {
                scene(Check.octal(op) + " with flags " + flags).code(100, op << 12 | 0111).register(1, 4096)
                        .flags(flags).faulty(NONE);
            }
            for (int head : new int[] {003, 067, 050, 051, 052, 053, 054, 055, 056, 057, 060, 061, 062, 063}) {
                scene("00" + Integer.toOctalString(head) + " with flags " + flags).code(100, head << 6 | 011)
                        .register(1, 301).flags(flags).faulty(ODD);
            }
            for (int op : new int[] {070, 071, 072, 074}) {
                scene(Check.octal(op) + " with flags " + flags).code(100, op << 9 | 0411).register(1, 301)
                        .flags(flags).faulty(ODD);
            }
        }
    }

    private static void faultLeavesMemory() {
        CHECK.sentence("Terms", "An instruction with a fault leaves registers, flags and memory as before it.");
        scene("all around an odd place").code(100, 010011).register(1, 501).words(498, 1, 2, 3).faulty(ODD);
        scene("the first words").code(100, 010011).register(1, 4096).words(0, 0x1111, 0x2222).faulty(NONE);
        scene("the first words, by a byte").code(100, 0110011).register(1, 4097).words(0, 0x1111, 0x2222).faulty(NONE);
        scene("the last word").code(100, 010011).register(1, 4095).words(4092, 0x1111, 0x2222).faulty(ODD);
        scene("the last word, from beyond").code(100, 010041).register(1, 65536).words(4092, 0x1111, 0x2222).faulty(NONE);
        scene("the stack").code(100, 004501).register(1, 700).words(1996, 1, 2, 3).faulty(UNKNOWN);
        scene("the stack, place told beyond").code(100, 004531).register(1, 4096).words(1996, 1, 2, 3).faulty(NONE);
    }
}
