/** '2 OPERANDS': each way, of words and bytes, with each register, and the order of what is done. */
public final class OperandsTest {
    private static final Check CHECK = new Check();
    private static final String SECTION = "2 OPERANDS";
    private static final int[] GENERAL = {0, 2, 3, 4, 5};
    private static final int N = 8;
    private static final int Z = 4;
    private static final int V = 2;
    private static final int C = 1;

    public static void main(String[] args) {
        eachWayAndRegister();
        way0();
        way1();
        way2();
        way3();
        way4();
        way5();
        way6();
        way7();
        bytesGrowByOne();
        wordsGrowByTwo();
        stackGrowsByTwo();
        placeGrowsByTwo();
        ownWordFirst();
        firstIsRead();
        secondIsFound();
        secondIsRead();
        thenWritten();
        lowerByteOfARegister();
        higherByteStays();
        movedByteHasSign();
        CHECK.end();
    }

    private static Scene scene(String what) {
        return new Scene(CHECK, what);
    }

    // Register r as the first operand's and as the second's; 0x4142 stands at 700, 0x0011 in register 1.

    private static Scene set(String what, int code, int r, int before) {
        return scene(what + " of register " + r).code(100, code, 100).words(300, 700).words(700, 0x4142)
                .register(1, 0x0011).register(r, before);
    }

    private static void words(int way, int r, int before, int after) {
        int next = way >= 6 ? 104 : 102;
        int six = way << 3 | r;
        set("word, first, way " + way, 010001 | six << 6, r, before)
                .thenRegister(1, 0x4142).thenRegister(r, after).thenFlags(0).done(next);
        set("word, second, way " + way, 050100 | six, r, before)
                .thenWords(700, 0x4153).thenRegister(r, after).thenFlags(0).done(next);
        set("word, alone, way " + way, 005200 | six, r, before)
                .thenWords(700, 0x4143).thenRegister(r, after).thenFlags(0).done(next);
    }

    /** Bytes at the even place 700, or at 701 behind it, where the other byte stands. */
    private static void bytes(int way, int r, int before, int after, int place) {
        int next = way >= 6 ? 104 : 102;
        int six = way << 3 | r;
        boolean even = place == 700;
        byteSet("byte, first, way " + way, 0110001 | six << 6, way, r, before, place)
                .thenRegister(1, even ? 0x42 : 0x41).thenRegister(r, after).thenFlags(0).done(next);
        byteSet("byte, second, way " + way, 0150100 | six, way, r, before, place)
                .thenWords(700, even ? 0x4153 : 0x5142).thenRegister(r, after).thenFlags(0).done(next);
        byteSet("byte, alone, way " + way, 0105200 | six, way, r, before, place)
                .thenWords(700, even ? 0x4143 : 0x4242).thenRegister(r, after).thenFlags(0).done(next);
    }

    private static Scene byteSet(String what, int code, int way, int r, int before, int place) {
        int index = way == 6 ? place - before : 100;
        return set(what, code, r, before).words(102, index).words(300, place);
    }

    private static void eachWayAndRegister() {
        CHECK.sentence(SECTION, "Six bits: a WAY (0 .. 7) and a register r.");
        // each register tells a place of its own, at which its number stands, and which tells another one
        for (int six = 0; six < 0100; six++) {
            int way = six >> 3;
            int r = six & 7;
            if (r == 7) {
                continue;
            }
            WordGuest x = new WordGuest();
            Check.pokeAll(x, 100, 010007 | six << 6, 40);
            for (int k = 0; k < 7; k++) {
                x.put(k, 1000 + 100 * k);
                Check.pokeAll(x, 998 + 100 * k, 2000 + 10 * k, 2002 + 10 * k);
                x.poke(1040 + 100 * k, 2004 + 10 * k);
                Check.pokeAll(x, 2000 + 10 * k, 3000 + 10 * k, 3002 + 10 * k, 3004 + 10 * k);
            }
            x.put(7, 100);
            int[] due = {1000 + 100 * r, 2002 + 10 * r, 2002 + 10 * r, 3002 + 10 * r, 2000 + 10 * r, 3000 + 10 * r,
                2004 + 10 * r, 3004 + 10 * r};
            CHECK.same(Check.octal(six), x.run(1), 0);
            CHECK.same(Check.octal(six) + ": what was moved to PLACE", x.register(7), due[way]);
        }
    }

    private static void way0() {
        CHECK.sentence(SECTION, "0: the register.");
        for (int r : new int[] {0, 2, 3, 4, 5, 6}) {
            scene("word, first").code(100, 010001 | r << 6).register(r, 0x4142)
                    .thenRegister(1, 0x4142).thenFlags(0).done(102);
            scene("word, second").code(100, 050100 | r).register(r, 0x4142).register(1, 0x0011)
                    .thenRegister(r, 0x4153).thenFlags(0).done(102);
            scene("word, no place at all").code(100, 005200 | r).register(r, 4097)
                    .thenRegister(r, 4098).thenFlags(0).done(102);
            scene("byte, alone").code(100, 0105200 | r).register(r, 0x4142).thenRegister(r, 0x4143).thenFlags(0).done(102);
        }
        scene("PLACE, first").code(100, 010701).thenRegister(1, 102).thenFlags(0).done(102);
        scene("PLACE, second").code(100, 060107).register(1, 10).thenFlags(0).done(112);
        scene("PLACE, second, odd").code(100, 060107).register(1, 11).thenFlags(0).done(113);
        scene("PLACE, lower byte").code(1022, 0105007).thenFlags(Z).done(1024);
        scene("PLACE, lower byte of others").code(1020, 0105007).thenFlags(Z).done(0x300);
    }

    private static void way1() {
        CHECK.sentence(SECTION, "1: at r.");
        for (int r : new int[] {0, 2, 3, 4, 5, 6}) {
            words(1, r, 700, 700);
            bytes(1, r, 700, 700, 700);
            bytes(1, r, 701, 701, 701);
        }
        scene("at PLACE").code(100, 011701, 0x4142).thenRegister(1, 0x4142).thenFlags(0).done(102);
        scene("at PLACE, byte").code(100, 0111701, 0x4142).thenRegister(1, 0x42).thenFlags(0).done(102);
        scene("at PLACE, second").code(100, 005217, 0x4142).thenWords(102, 0x4143).thenFlags(0).done(102);
    }

    private static void way2() {
        CHECK.sentence(SECTION, "2: at r, then r grows.");
        for (int r : GENERAL) {
            words(2, r, 700, 702);
            bytes(2, r, 700, 701, 700);
            bytes(2, r, 701, 702, 701);
        }
        words(2, 6, 700, 702);
        bytes(2, 6, 700, 702, 700);
        bytes(2, 6, 701, 703, 701);
        scene("by PLACE").code(100, 012701, 0x4142).thenRegister(1, 0x4142).thenFlags(0).done(104);
        scene("by PLACE, byte").code(100, 0112701, 0x4142).thenRegister(1, 0x42).thenFlags(0).done(104);
        scene("by PLACE, second").code(100, 005227, 0x4142).thenWords(102, 0x4143).thenFlags(0).done(104);
        scene("by PLACE, both").code(100, 062727, 1, 0x4142).thenWords(104, 0x4143).thenFlags(0).done(106);
        scene("at the last word").code(100, 012200 | 1).register(2, 4094).words(4094, 5)
                .thenRegister(1, 5).thenRegister(2, 4096).thenFlags(0).done(102);
        scene("at the last byte").code(100, 0112200 | 1).register(2, 4095).words(4094, 0x0500)
                .thenRegister(1, 5).thenRegister(2, 4096).thenFlags(0).done(102);
    }

    private static void way3() {
        CHECK.sentence(SECTION, "3: at the place that the word at r tells, then r grows by 2.");
        for (int r : new int[] {0, 2, 3, 4, 5, 6}) {
            words(3, r, 300, 302);
            bytes(3, r, 300, 302, 700);
            bytes(3, r, 300, 302, 701);
        }
        scene("by PLACE").code(100, 013701, 700).words(700, 0x4142).thenRegister(1, 0x4142).thenFlags(0).done(104);
        scene("by PLACE, byte").code(100, 0113701, 701).words(700, 0x4142).thenRegister(1, 0x41).thenFlags(0).done(104);
        scene("by PLACE, second").code(100, 005237, 700).words(700, 5).thenWords(700, 6).thenFlags(0).done(104);
        scene("told at the last word").code(100, 013201).register(2, 4094).words(4094, 700).words(700, 5)
                .thenRegister(1, 5).thenRegister(2, 4096).thenFlags(0).done(102);
    }

    private static void way4() {
        CHECK.sentence(SECTION, "4: r shrinks, then at r.");
        for (int r : GENERAL) {
            words(4, r, 702, 700);
            bytes(4, r, 701, 700, 700);
            bytes(4, r, 702, 701, 701);
        }
        words(4, 6, 702, 700);
        bytes(4, 6, 702, 700, 700);
        bytes(4, 6, 703, 701, 701);
        scene("by PLACE: its own word").code(100, 014701).thenRegister(1, 014701).thenFlags(0).done(100);
        scene("by PLACE, byte").code(100, 0114701).thenRegister(1, 0114701 & 0xFF | 0xFF00).thenFlags(N).done(100);
        scene("by PLACE, second").code(100, 005247).thenWords(100, 005250).thenFlags(0).done(100);
        scene("to the first word").code(100, 014201).register(2, 2).words(0, 5)
                .thenRegister(1, 5).thenRegister(2, 0).thenFlags(0).done(102);
        scene("to the first byte").code(100, 0114201).register(2, 1).words(0, 0x0705)
                .thenRegister(1, 5).thenRegister(2, 0).thenFlags(0).done(102);
        scene("word below the first").code(100, 014201).register(2, 0).faulty(Scene.NONE);
        scene("byte below the first").code(100, 0114201).register(2, 0).faulty(Scene.NONE);
        scene("from behind the last word").code(100, 014201).register(2, 4096).words(4094, 5)
                .thenRegister(1, 5).thenRegister(2, 4094).thenFlags(0).done(102);
    }

    private static void way5() {
        CHECK.sentence(SECTION, "5: r shrinks by 2, then at the place that the word at r tells.");
        for (int r : new int[] {0, 2, 3, 4, 5, 6}) {
            words(5, r, 302, 300);
            bytes(5, r, 302, 300, 700);
            bytes(5, r, 302, 300, 701);
        }
        scene("by PLACE: its own word is an odd place").code(100, 005257).faulty(Scene.ODD);
        scene("by PLACE: its own word is no place").code(100, 015702).faulty(Scene.NONE);
        scene("by PLACE: jump to what its own word tells").code(100, 000157).done(000157);
        scene("told at the first word").code(100, 015201).register(2, 2).words(0, 700).words(700, 5)
                .thenRegister(1, 5).thenRegister(2, 0).thenFlags(0).done(102);
        scene("told below the first word").code(100, 015201).register(2, 0).faulty(Scene.NONE);
        scene("told below the first word, byte").code(100, 0115201).register(2, 1).faulty(Scene.ODD);
    }

    private static void way6() {
        CHECK.sentence(SECTION, "6: the word at PLACE (which grows by 2) and r then, added: at that.");
        for (int r : new int[] {0, 2, 3, 4, 5, 6}) {
            words(6, r, 600, 600);
            bytes(6, r, 600, 600, 700);
            bytes(6, r, 600, 600, 701);
            bytes(6, r, 601, 601, 700);
            bytes(6, r, 1000, 1000, 701);
        }
        scene("by PLACE, as it is then").code(100, 016701, 700 - 104).words(700, 5).thenRegister(1, 5).thenFlags(0).done(104);
        scene("by PLACE, second").code(100, 005267, 700 - 104).words(700, 5).thenWords(700, 6).thenFlags(0).done(104);
        scene("by PLACE, both").code(100, 016767, 700 - 104, 800 - 106).words(700, 5)
                .thenWords(800, 5).thenFlags(0).done(106);
        scene("the first by PLACE's word").code(100, 062767, 1, 700 - 106).words(700, 5)
                .thenWords(700, 6).thenFlags(0).done(106);
        scene("word 0").code(100, 016201, 0).register(2, 700).words(700, 5).thenRegister(1, 5).thenFlags(0).done(104);
    }

    private static void way7() {
        CHECK.sentence(SECTION, "7: the same, at the place that the word there tells.");
        for (int r : new int[] {0, 2, 3, 4, 5, 6}) {
            words(7, r, 200, 200);
            bytes(7, r, 200, 200, 700);
            bytes(7, r, 200, 200, 701);
        }
        scene("by PLACE, as it is then").code(100, 017701, 300 - 104).words(300, 700).words(700, 5)
                .thenRegister(1, 5).thenFlags(0).done(104);
        scene("by PLACE, both").code(100, 017777, 300 - 104, 302 - 106).words(300, 700, 800).words(700, 5)
                .thenWords(800, 5).thenFlags(0).done(106);
        scene("an odd sum").code(100, 0117201, 1).register(2, 300).words(300, 700).faulty(Scene.ODD);
    }

    private static void bytesGrowByOne() {
        CHECK.sentence(SECTION, "by 1 for bytes");
        for (int r : GENERAL) {
            scene("test").code(100, 0105720 | r).register(r, 700).thenRegister(r, 701).thenFlags(Z).done(102);
            scene("test back").code(100, 0105740 | r).register(r, 700).thenRegister(r, 699).thenFlags(Z).done(102);
            scene("compare").code(100, 0120027 | r << 6 | 02000, 0).register(r, 701)
                    .thenRegister(r, 702).thenFlags(Z).done(104);
        }
        scene("the same one twice").code(100, 0112222).register(2, 700).words(700, 0x0005)
                .thenWords(700, 0x0505).thenRegister(2, 702).thenFlags(0).done(102);
        scene("the same one back").code(100, 0114242).register(2, 702).words(700, 0x0500)
                .thenWords(700, 0x0505).thenRegister(2, 700).thenFlags(0).done(102);
    }

    private static void wordsGrowByTwo() {
        CHECK.sentence(SECTION, "To grow and to shrink (2, 4) is by 2 for words");
        for (int r = 0; r < 7; r++) {
            scene("test").code(100, 005720 | r).register(r, 700).thenRegister(r, 702).thenFlags(Z).done(102);
            scene("test back").code(100, 005740 | r).register(r, 700).thenRegister(r, 698).thenFlags(Z).done(102);
        }
        scene("product").code(100, 070422).register(2, 700).register(4, 0)
                .thenRegister(2, 702).thenRegister(4, 0).thenRegister(5, 0).thenFlags(Z).done(102);
        scene("exchange").code(100, 000342).register(2, 702).thenRegister(2, 700).thenFlags(Z).done(102);
        scene("subtract, of words too").code(100, 0162122).register(1, 500).words(500, 1).register(2, 700).words(700, 5)
                .thenWords(700, 4).thenRegister(1, 502).thenRegister(2, 702).thenFlags(0).done(102);
        scene("jump").code(100, 000122).register(2, 700).thenRegister(2, 702).done(700);
        scene("the same one twice").code(100, 012222).register(2, 700).words(700, 5)
                .thenWords(702, 5).thenRegister(2, 704).thenFlags(0).done(102);
    }

    private static void stackGrowsByTwo() {
        CHECK.sentence(SECTION, "but for registers 6 and 7 always by 2");
        scene("6 grows").code(100, 0105726).register(6, 700).thenRegister(6, 702).thenFlags(Z).done(102);
        scene("6 grows from an odd place").code(100, 0105726).register(6, 701).thenRegister(6, 703).thenFlags(Z).done(102);
        scene("6 shrinks").code(100, 0105746).register(6, 700).thenRegister(6, 698).thenFlags(Z).done(102);
        scene("6 shrinks to the first").code(100, 0105746).register(6, 2).thenRegister(6, 0).thenFlags(Z).done(102);
        scene("6 shrinks below the first").code(100, 0105746).register(6, 1).faulty(Scene.NONE);
        scene("5 shrinks to the first").code(100, 0105745).register(5, 1).thenRegister(5, 0).thenFlags(Z).done(102);
        scene("6 as first").code(100, 0112601).register(6, 700).thenRegister(6, 702).thenRegister(1, 0).thenFlags(Z).done(102);
        scene("6 as second").code(100, 0110146).register(6, 700).register(1, 5)
                .thenWords(698, 5).thenRegister(6, 698).thenFlags(0).done(102);
    }

    private static void placeGrowsByTwo() {
        CHECK.sentence(SECTION, "but for registers 6 and 7 always by 2");
        scene("7 grows").code(100, 0105727).thenFlags(Z).done(104);
        scene("7 shrinks").code(100, 0105747).thenFlags(N).done(100);
        scene("7 as both").code(100, 0112727, 0x0705, 0x1234).thenWords(104, 0x1205).thenFlags(0).done(106);
        scene("7 grows, way 3, byte").code(100, 0105737, 701).thenFlags(Z).done(104);
    }

    private static void ownWordFirst() {
        CHECK.sentence(SECTION, "The instruction's own word is taken first (PLACE grows by 2)");
        scene("PLACE read").code(100, 010701).thenRegister(1, 102).thenFlags(0).done(102);
        scene("PLACE put on the stack").code(100, 010746).thenWords(1998, 102).thenRegister(6, 1998).thenFlags(0).done(102);
        scene("PLACE behind both words").code(100, 010767, 700 - 104).thenWords(700, 102).thenFlags(0).done(104);
        scene("compare PLACE with itself behind a word").code(100, 022707, 104).thenFlags(Z).done(104);
        scene("at the last place").code(4094, 010701).thenRegister(1, 4096).thenFlags(0).done(4096);
    }

    private static void firstIsRead() {
        CHECK.sentence(SECTION, "then the first operand is read, then the second one's place found");
        scene("before the second grows").code(100, 010222).register(2, 700)
                .thenWords(700, 700).thenRegister(2, 702).thenFlags(0).done(102);
        scene("before the second shrinks").code(100, 010242).register(2, 700)
                .thenWords(698, 700).thenRegister(2, 698).thenFlags(0).done(102);
        scene("before the second's byte shrinks").code(100, 0110242).register(2, 701)
                .thenWords(700, 701 & 0xFF).thenRegister(2, 700).thenFlags(N).done(102);
        scene("before the second's word grows").code(100, 010232).register(2, 300).words(300, 700)
                .thenWords(700, 300).thenRegister(2, 302).thenFlags(0).done(102);
        scene("before the second's word shrinks").code(100, 010252).register(2, 302).words(300, 700)
                .thenWords(700, 302).thenRegister(2, 300).thenFlags(0).done(102);
        scene("6 before it shrinks").code(100, 010646).thenWords(1998, 2000).thenRegister(6, 1998).thenFlags(0).done(102);
        scene("PLACE before the second's word").code(100, 010762, 100).register(2, 600)
                .thenWords(700, 102).thenFlags(0).done(104);
    }

    private static void secondIsFound() {
        CHECK.sentence(SECTION, "then the second one's place found");
        scene("when the first has grown").code(100, 012212).register(2, 700).words(700, 5)
                .thenWords(702, 5).thenRegister(2, 702).thenFlags(0).done(102);
        scene("when the first has shrunk").code(100, 014212).register(2, 702).words(700, 5)
                .thenRegister(2, 700).thenFlags(0).done(102);
        scene("the first's word behind is the first").code(100, 016262, 100, 200).register(2, 600).words(700, 5)
                .thenWords(800, 5).thenFlags(0).done(106);
        scene("the first's word told is the first").code(100, 013232).register(2, 300).words(300, 700, 800).words(700, 5)
                .thenWords(800, 5).thenRegister(2, 304).thenFlags(0).done(102);
        scene("by PLACE behind the first's word").code(100, 012717, 5).thenWords(104, 5).thenFlags(0).done(104);
    }

    private static void secondIsRead() {
        CHECK.sentence(SECTION, "then the second one's place found, and read");
        scene("a register that the first has grown").code(100, 062202).register(2, 700).words(700, 5)
                .thenRegister(2, 707).thenFlags(0).done(102);
        scene("a register that the first has shrunk").code(100, 064202).register(2, 702).words(700, 5)
                .thenRegister(2, 705).thenFlags(0).done(102);
        scene("PLACE behind the first's word").code(100, 062707, 6).thenFlags(0).done(110);
        scene("compared when grown").code(100, 022202).register(2, 700).words(700, 702)
                .thenRegister(2, 702).thenFlags(Z).done(102);
        scene("s of a product, then r").code(100, 070322).register(2, 700).register(3, 3).words(700, 5)
                .thenRegister(2, 702).thenRegister(3, 15).thenFlags(0).done(102);
    }

    private static void thenWritten() {
        CHECK.sentence(SECTION, "then it is written");
        scene("over what grew").code(100, 012202).register(2, 700).words(700, 5).thenRegister(2, 5).thenFlags(0).done(102);
        scene("over what shrank").code(100, 014202).register(2, 702).words(700, 5).thenRegister(2, 5).thenFlags(0).done(102);
        scene("byte over what grew").code(100, 0112202).register(2, 700).words(700, 0x0285)
                .thenRegister(2, 0xFF85).thenFlags(N).done(102);
        scene("over PLACE").code(100, 012707, 700).thenFlags(0).done(700);
        scene("where it was before it grew").code(100, 062122).register(1, 500).words(500, 5).register(2, 700)
                .thenWords(700, 5).thenRegister(1, 502).thenRegister(2, 702).thenFlags(0).done(102);
        scene("where the word told it, though that word is written").code(100, 005232).register(2, 300).words(300, 300)
                .thenWords(300, 301).thenRegister(2, 302).thenFlags(0).done(102);
        scene("the same place as the first").code(100, 061212).register(2, 700).words(700, 0x8000)
                .thenWords(700, 0).thenFlags(Z | V | C).done(102);
    }

    private static void lowerByteOfARegister() {
        CHECK.sentence(SECTION, "Bytes in a register are its lower one");
        for (int r = 0; r < 7; r++) {
            scene("test, higher one 0x80").code(100, 0105700 | r).register(r, 0x8000).thenFlags(Z).done(102);
            scene("test, lower one 0x80").code(100, 0105700 | r).register(r, 0x0080).thenFlags(N).done(102);
        }
        scene("first in a register").code(100, 0110110).register(1, 0x7705).register(0, 701).words(700, 0x1234)
                .thenWords(700, 0x0534).thenFlags(0).done(102);
        scene("compared").code(100, 0120100).register(1, 0x7705).register(0, 0x1105).thenFlags(Z).done(102);
    }

    private static void higherByteStays() {
        CHECK.sentence(SECTION, "the higher one stays");
        int[] heads = {050, 051, 052, 053, 054, 063};
        int[] due = {0x00, 0x00, 0x00, 0xFE, 0x01, 0xFE};
        for (int higher = 0; higher < 256; higher += 51) {
            for (int i = 0; i < heads.length; i++) {
                WordGuest x = new WordGuest();
                x.poke(0, 0100000 | heads[i] << 6 | 2);
                x.put(2, higher << 8 | 0xFF);
                x.run(1);
                CHECK.same("010" + Integer.toOctalString(heads[i]), x.register(2), higher << 8 | due[i]);
            }
        }
        scene("without").code(100, 0140102).register(1, 0xFFFF).register(2, 0x1234)
                .thenRegister(2, 0x1200).thenFlags(Z).done(102);
        scene("or").code(100, 0150102).register(1, 0xFFFF).register(2, 0x1234)
                .thenRegister(2, 0x12FF).thenFlags(N).done(102);
        scene("in PLACE").code(1022, 0150107).register(1, 0x0006).thenFlags(0).done(1030);
    }

    private static void movedByteHasSign() {
        CHECK.sentence(SECTION, "(but for the move: it becomes the sign)");
        int[] rows = {0x00, 0x0000, 0x01, 0x0001, 0x7F, 0x007F, 0x80, 0xFF80, 0x81, 0xFF81, 0xFF, 0xFFFF};
        for (int i = 0; i < rows.length; i += 2) {
            int flags = rows[i] == 0 ? Z : rows[i] >= 0x80 ? N : 0;
            for (int r = 0; r < 7; r++) {
                scene("from code").code(100, 0112700 | r, 0x1200 | rows[i])
                        .thenRegister(r, rows[i + 1]).thenFlags(flags).done(104);
            }
            scene("over itself").code(100, 0110202).register(2, 0x5500 | rows[i])
                    .thenRegister(2, rows[i + 1]).thenFlags(flags).done(102);
            scene("into PLACE").code(100, 0112707, rows[i]).thenFlags(flags).done(rows[i + 1]);
            scene("into memory: no sign").code(100, 0112712, rows[i]).register(2, 700).words(700, 0x5555)
                    .thenWords(700, 0x5500 | rows[i]).thenFlags(flags).done(104);
            scene("into memory, odd: no sign").code(100, 0112712, rows[i]).register(2, 701).words(700, 0x5555)
                    .thenWords(700, rows[i] << 8 | 0x55).thenFlags(flags).done(104);
        }
    }
}
