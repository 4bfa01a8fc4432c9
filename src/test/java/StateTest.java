/** Promises 1 to 8 and 13: what can be put into the machine, looked at, and cleared. */
public final class StateTest {
    private static final Check CHECK = new Check();
    private static final int[] NO_WORD_PLACES = {-1, -2, 1, 3, 4093, 4095, 4096, 4097, 4098, 65536, 65535,
        Integer.MIN_VALUE, Integer.MAX_VALUE, Integer.MAX_VALUE - 1};
    private static final int[] NO_REGISTERS = {-1, 8, 9, 65536, Integer.MIN_VALUE, Integer.MAX_VALUE};

    public static void main(String[] args) {
        promise1();
        promise2();
        promise2AtTheEnd();
        promise3();
        promise4();
        promises5And6();
        promises7And8();
        promise13();
        CHECK.end();
    }

    private static void allZero(String what, WordGuest x) {
        CHECK.registers(what, x, 0, 0, 0, 0, 0, 0, 0, 0);
        CHECK.same(what + ": flags", x.flags(), 0);
        CHECK.same(what + ": steps", x.steps(), 0);
        CHECK.same(what + ": outputs", x.outputs(), 0);
        CHECK.throwsIndex(what + ": output(0)", () -> x.output(0));
        for (int place = 0; place < 4096; place += 26) {
            CHECK.same(what + ": word " + place, x.word(place), 0);
        }
        CHECK.same(what + ": last word", x.word(4094), 0);
    }

    private static void promise1() {
        allZero("new", new WordGuest());
        WordGuest one = new WordGuest();
        WordGuest other = new WordGuest();
        one.poke(10, 5);
        one.put(3, 7);
        one.flag(15);
        allZero("another object", other);
    }

    private static void promise2() {
        WordGuest x = new WordGuest();
        CHECK.same("load", x.load(100, 0x12345678, -1, 0x80007FFF, 0, 0x0001FFFF), 10);
        int[] due = {0x1234, 0x5678, 0xFFFF, 0xFFFF, 0x8000, 0x7FFF, 0, 0, 1, 0xFFFF};
        for (int i = 0; i < due.length; i++) {
            CHECK.same("word " + i + " of load", x.word(100 + 2 * i), due[i]);
        }
        CHECK.same("word before load", x.word(98), 0);
        CHECK.same("word behind load", x.word(120), 0);
        CHECK.same("load again", x.load(100, 0, 0, 0, 0, 0), 10);
        CHECK.same("0 is put, too", x.word(104), 0);
        x.poke(0, 77);
        x.poke(4094, 78);
        for (int place : NO_WORD_PLACES) {
            CHECK.throwsIndex("load at " + place, () -> x.load(place, -1, -1, -1, -1, -1));
        }
        CHECK.same("first word after loads that threw", x.word(0), 77);
        CHECK.same("second word after loads that threw", x.word(2), 0);
        CHECK.same("last word after loads that threw", x.word(4094), 78);
        CHECK.same("last but one after loads that threw", x.word(4092), 0);
    }

    private static void promise2AtTheEnd() {
        for (int words = 1; words <= 12; words++) {
            WordGuest x = new WordGuest();
            int place = 4096 - 2 * words;
            int put = Math.min(words, 10);
            CHECK.same("load at " + place, x.load(place, 0x10002, 0x30004, 0x50006, 0x70008, 0x9000A), put);
            for (int i = 0; i < words; i++) {
                CHECK.same("load at " + place + ", word " + i, x.word(place + 2 * i), i < 10 ? i + 1 : 0);
            }
            CHECK.same("load at " + place + " leaves the start", x.word(0), 0);
            CHECK.same("load tells no output", x.outputs(), 0);
        }
    }

    private static void promise3() {
        WordGuest x = new WordGuest();
        x.poke(0, 0xABCD);
        x.poke(4094, 0xFFFF);
        CHECK.same("word(0)", x.word(0), 0xABCD);
        CHECK.same("word(4094)", x.word(4094), 0xFFFF);
        for (int place : NO_WORD_PLACES) {
            CHECK.throwsIndex("word(" + place + ")", () -> x.word(place));
        }
    }

    private static void promise4() {
        WordGuest x = new WordGuest();
        CHECK.same("poke 0 over 0", x.poke(20, 0), false);
        CHECK.same("poke 65536 over 0", x.poke(20, 65536), false);
        CHECK.same("poke -1", x.poke(20, -1), true);
        CHECK.same("word", x.word(20), 65535);
        CHECK.same("poke 65535 over 65535", x.poke(20, 65535), false);
        CHECK.same("poke 0x12345", x.poke(20, 0x12345), true);
        CHECK.same("word", x.word(20), 0x2345);
        CHECK.same("neighbours", x.word(18) + x.word(22), 0);
        CHECK.same("poke at the port", x.poke(4094, 5), true);
        CHECK.same("poke tells no output", x.outputs(), 0);
        for (int place : NO_WORD_PLACES) {
            CHECK.throwsIndex("poke(" + place + ")", () -> x.poke(place, 9));
        }
        CHECK.same("last word after pokes that threw", x.word(4094), 5);
        CHECK.same("first word after pokes that threw", x.word(0), 0);
    }

    private static void promises5And6() {
        WordGuest x = new WordGuest();
        for (int k = 0; k < 8; k++) {
            x.put(k, 0x7FFF0000 + 1000 * k + 1);
        }
        CHECK.registers("put", x, 1, 1001, 2001, 3001, 4001, 5001, 6001, 7001);
        x.put(5, -1);
        x.put(6, 65536);
        x.put(7, 65535);
        CHECK.registers("put", x, 1, 1001, 2001, 3001, 4001, 65535, 0, 65535);
        for (int k : NO_REGISTERS) {
            CHECK.throwsIndex("register(" + k + ")", () -> x.register(k));
            CHECK.throwsIndex("put(" + k + ")", () -> x.put(k, 3));
        }
        CHECK.registers("puts that threw", x, 1, 1001, 2001, 3001, 4001, 65535, 0, 65535);
        CHECK.same("flags after put", x.flags(), 0);
    }

    private static void promises7And8() {
        WordGuest x = new WordGuest();
        for (int v = 0; v < 40; v++) {
            x.flag(v);
            CHECK.same("flag(" + v + ")", x.flags(), v & 15);
        }
        x.flag(-1);
        CHECK.same("flag(-1)", x.flags(), 15);
        x.flag(Integer.MIN_VALUE);
        CHECK.same("flag(least)", x.flags(), 0);
        x.flag(0xFFFFFFF6);
        CHECK.same("flag(...6)", x.flags(), 6);
    }

    private static void promise13() {
        WordGuest x = new WordGuest();
        for (int place = 0; place < 4096; place += 26) {
            x.poke(place, 0x1111);
        }
        for (int k = 0; k < 8; k++) {
            x.put(k, k + 1);
        }
        x.flag(15);
        Check.pokeAll(x, 100, 010037, 4094, 0);
        x.put(7, 100);
        CHECK.same("run before clear", x.run(5), 1);
        CHECK.same("outputs before clear", x.outputs(), 1);
        x.clear();
        allZero("cleared", x);
        Check.pokeAll(x, 0, 010037, 4094, 0);
        x.put(0, 9);
        CHECK.same("run after clear", x.run(5), 1);
        CHECK.same("outputs after clear", x.outputs(), 1);
        CHECK.same("output(0) after clear", x.output(0), 9);
    }
}
