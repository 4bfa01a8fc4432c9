/** Promises 1 to 13, each sentence at its edges, and that a call that throws changes nothing. */
public final class PromisesTest {
    private static final Check CHECK = new Check();
    private static final int LEAST = Integer.MIN_VALUE;
    private static final int GREATEST = Integer.MAX_VALUE;
    /** Odd ones among those that are there, and both kinds beyond both ends. */
    private static final int[] NO_WORD_PLACES = {-4096, -3, -2, -1, 1, 3, 2047, 4091, 4093, 4095, 4096, 4097, 4098,
        65534, 65535, 65536, 65538, LEAST, LEAST + 1, LEAST + 2, GREATEST, GREATEST - 1, GREATEST - 17};
    private static final int[] NO_REGISTERS = {-8, -2, -1, 8, 9, 15, 16, 256, 65536, LEAST, GREATEST};
    private static final int[] NO_RUNS = {-1, -2, -5000, 5001, 5002, 65536, 70536, LEAST, GREATEST};
    /** An object answers for 512 calls: its memory is looked at in parts, each with a new object. */
    private static final int PART = 200;

    public static void main(String[] args) {
        aNewObject();
        loadPutsTenWords();
        loadTakesTheLowest16Bits();
        loadLeavesOutWhatIsBeyond();
        loadRefuses();
        word();
        wordRefuses();
        poke();
        pokeRefuses();
        register();
        registerRefuses();
        put();
        putRefuses();
        flags();
        flag();
        runOfSoMany();
        runToHalt();
        runToAFault();
        runRefuses();
        steps();
        output();
        outputRefuses();
        outputs();
        clear();
        throwsWhatIsNamed();
        noSuchPlaceRegisterOutput();
        throwingChangesNothing();
        upTo512Calls();
        CHECK.end();
    }

    private interface Made {
        WordGuest now();
    }

    private static void allZero(String what, Made made) {
        for (int from = 0; from < 4096; from += 2 * PART) {
            WordGuest x = made.now();
            CHECK.registers(what, x, 0, 0, 0, 0, 0, 0, 0, 0);
            CHECK.same(what + ": flags", x.flags(), 0);
            CHECK.same(what + ": steps", x.steps(), 0);
            CHECK.same(what + ": outputs", x.outputs(), 0);
            CHECK.throwsIndex(what + ": output(0)", () -> x.output(0));
            for (int place = from; place < Math.min(from + 2 * PART, 4096); place += 2) {
                CHECK.same(what + ": word " + place, x.word(place), 0);
            }
        }
    }

    private static void aNewObject() {
        CHECK.sentence("Promise 1", "All 0.");
        allZero("new", WordGuest::new);
        allZero("another object", () -> {
            busy();
            return new WordGuest();
        });
    }

    private static void loadPutsTenWords() {
        CHECK.sentence("Promise 2", "A word of memory (its lowest 16 bits), and the nine behind it,"
                + " as five numbers of two words each, the higher one first");
        for (int place : new int[] {0, 2, 100, 4074, 4076}) {
            WordGuest x = new WordGuest();
            CHECK.same("load at " + place, x.load(place, 0x12345678, 0xFFFF0000, 0x0000FFFF, 0x80007FFF, 0x7FFF8000), 10);
            int[] due = {0x1234, 0x5678, 0xFFFF, 0, 0, 0xFFFF, 0x8000, 0x7FFF, 0x7FFF, 0x8000};
            for (int i = 0; i < due.length; i++) {
                CHECK.same("load at " + place + ": word " + i, x.word(place + 2 * i), due[i]);
            }
            if (place > 0) {
                CHECK.same("load at " + place + ": the word before", x.word(place - 2), 0);
            }
            if (place < 4076) {
                CHECK.same("load at " + place + ": the word behind", x.word(place + 20), 0);
            }
        }
    }

    private static void loadTakesTheLowest16Bits() {
        CHECK.sentence("Promise 2", "as five numbers of two words each, the higher one first");
        WordGuest x = new WordGuest();
        CHECK.same("load of -1", x.load(100, -1, -1, -1, -1, -1), 10);
        CHECK.same("load of 0", x.load(100, 0x00010000, 0x0000FFFF, 1, LEAST, GREATEST), 10);
        int[] due = {1, 0, 0, 0xFFFF, 0, 1, 0x8000, 0, 0x7FFF, 0xFFFF};
        for (int i = 0; i < due.length; i++) {
            CHECK.same("word " + i + " is put over another one", x.word(100 + 2 * i), due[i]);
        }
        CHECK.same("load is no instruction", x.register(7) + x.flags() + x.steps() + x.outputs(), 0);
    }

    private static void loadLeavesOutWhatIsBeyond() {
        CHECK.sentence("Promise 2", "words beyond the end are left out: how many were put");
        for (int words = 1; words <= 12; words++) {
            WordGuest x = new WordGuest();
            int place = 4096 - 2 * words;
            int put = Math.min(words, 10);
            CHECK.same("load at " + place, x.load(place, 0x10002, 0x30004, 0x50006, 0x70008, 0x9000A), put);
            for (int i = 0; i < words; i++) {
                CHECK.same("load at " + place + ": word " + i, x.word(place + 2 * i), i < 10 ? i + 1 : 0);
            }
            CHECK.same("load at " + place + ": the word before", x.word(place - 2), 0);
            for (int start = 0; start < 20; start += 2) {
                CHECK.same("load at " + place + " leaves " + start, x.word(start), 0);
            }
            CHECK.same("load tells no output", x.outputs(), 0);
        }
    }

    private static void loadRefuses() {
        CHECK.sentence("Promise 2", "IndexOutOfBoundsException: the place is odd, or none.");
        for (int place : NO_WORD_PLACES) {
            refused("load at " + place, IndexOutOfBoundsException.class, x -> x.load(place, -1, -1, -1, -1, -1));
        }
        CHECK.same("load at the first place", new WordGuest().load(0, 1, 2, 3, 4, 5), 10);
        CHECK.same("load at the last place", new WordGuest().load(4094, 1, 2, 3, 4, 5), 1);
    }

    private static void word() {
        CHECK.sentence("Promise 3", "A word of memory.");
        WordGuest x = new WordGuest();
        int[] places = {0, 2, 2046, 2048, 4092, 4094};
        for (int place : places) {
            CHECK.same("word(" + place + ") at first", x.word(place), 0);
            x.poke(place, 0x8000 + place);
        }
        for (int place : places) {
            CHECK.same("word(" + place + ")", x.word(place), 0x8000 + place);
        }
        x.poke(4, 0xFFFF);
        CHECK.same("a word has no sign", x.word(4), 65535);
    }

    private static void wordRefuses() {
        CHECK.sentence("Promise 3", "IndexOutOfBoundsException: also odd.");
        for (int place : NO_WORD_PLACES) {
            refused("word(" + place + ")", IndexOutOfBoundsException.class, x -> x.word(place));
        }
    }

    private static void poke() {
        CHECK.sentence("Promise 4", "A word of memory becomes another one: whether it is another.");
        for (int place : new int[] {0, 20, 4094}) {
            WordGuest x = new WordGuest();
            CHECK.same("0 over 0", x.poke(place, 0), false);
            CHECK.same("65536 over 0", x.poke(place, 65536), false);
            CHECK.same("1 over 0", x.poke(place, 1), true);
            CHECK.same("1 over 1", x.poke(place, 1), false);
            CHECK.same("65537 over 1", x.poke(place, 65537), false);
            CHECK.same("-1 over 1", x.poke(place, -1), true);
            CHECK.same("word", x.word(place), 65535);
            CHECK.same("65535 over 65535", x.poke(place, 65535), false);
            CHECK.same("the other byte is another", x.poke(place, 0x7FFF), true);
            CHECK.same("0x12345", x.poke(place, 0x12345), true);
            CHECK.same("word", x.word(place), 0x2345);
            CHECK.same("neighbours", x.word(18) + x.word(22) + x.word(2) + x.word(4092), 0);
            CHECK.same("poke tells no output", x.outputs(), 0);
        }
    }

    private static void pokeRefuses() {
        CHECK.sentence("Promise 4", "IndexOutOfBoundsException: also odd.");
        for (int place : NO_WORD_PLACES) {
            refused("poke(" + place + ")", IndexOutOfBoundsException.class, x -> x.poke(place, 9));
        }
    }

    private static void register() {
        CHECK.sentence("Promise 5", "A register.");
        WordGuest x = new WordGuest();
        for (int k = 0; k < 8; k++) {
            x.put(k, 1000 * k + 1);
        }
        CHECK.registers("each has its own", x, 1, 1001, 2001, 3001, 4001, 5001, 6001, 7001);
    }

    private static void registerRefuses() {
        CHECK.sentence("Promise 5", "IndexOutOfBoundsException.");
        for (int k : NO_REGISTERS) {
            refused("register(" + k + ")", IndexOutOfBoundsException.class, x -> x.register(k));
        }
    }

    private static void put() {
        CHECK.sentence("Promise 6", "A register becomes a word (the lowest 16 bits).");
        int[] values = {0, 1, 0x7FFF, 0x8000, 0xFFFE, 0xFFFF, 0x10000, 0x10001, -1, -2, -65535, -65536, -65537, LEAST, GREATEST};
        int[] due = {0, 1, 0x7FFF, 0x8000, 0xFFFE, 0xFFFF, 0, 1, 0xFFFF, 0xFFFE, 1, 0, 0xFFFF, 0, 0xFFFF};
        for (int k = 0; k < 8; k++) {
            WordGuest x = new WordGuest();
            for (int i = 0; i < values.length; i++) {
                x.put(k, values[i]);
                CHECK.same("put(" + k + ", " + values[i] + ")", x.register(k), due[i]);
            }
            for (int other = 0; other < 8; other++) {
                CHECK.same("put(" + k + "): register " + other, x.register(other), other == k ? 0xFFFF : 0);
            }
            CHECK.same("put(" + k + ") leaves the flags", x.flags(), 0);
        }
    }

    private static void putRefuses() {
        CHECK.sentence("Promise 6", "IndexOutOfBoundsException.");
        for (int k : NO_REGISTERS) {
            refused("put(" + k + ")", IndexOutOfBoundsException.class, x -> x.put(k, 3));
        }
    }

    private static void flags() {
        CHECK.sentence("Promise 7", "The flags.");
        // what sets N, Z, V and C alone: bits 3, 2, 1, 0 of the number
        int[] codes = {000270, 000264, 000262, 000261};
        for (int i = 0; i < 4; i++) {
            WordGuest x = new WordGuest();
            x.poke(0, codes[i]);
            CHECK.same("flags at first", x.flags(), 0);
            x.run(1);
            CHECK.same("flags by " + Check.octal(codes[i]), x.flags(), 8 >> i);
            CHECK.same("flags again", x.flags(), 8 >> i);
        }
    }

    private static void flag() {
        CHECK.sentence("Promise 8", "The flags become the lowest four bits of a number.");
        WordGuest x = new WordGuest();
        for (int v = 0; v < 40; v++) {
            x.flag(v);
            CHECK.same("flag(" + v + ")", x.flags(), v % 16);
        }
        int[] values = {-1, -2, -16, -17, LEAST, LEAST + 9, GREATEST, 0xFFFFFFF6, 65536, 65551};
        int[] due = {15, 14, 0, 15, 0, 9, 15, 6, 0, 15};
        for (int i = 0; i < values.length; i++) {
            x.flag(values[i]);
            CHECK.same("flag(" + values[i] + ")", x.flags(), due[i]);
        }
        CHECK.registers("flag leaves the registers", x, 0, 0, 0, 0, 0, 0, 0, 0);
    }

    /** Register 0 counts: one more, and back again. */
    private static WordGuest counting() {
        WordGuest x = new WordGuest();
        Check.pokeAll(x, 0, 005200, 000776);
        return x;
    }

    private static void runOfSoMany() {
        CHECK.sentence("Promise 9", "At most n instructions: 0 so many were done");
        WordGuest x = counting();
        CHECK.same("run(0)", x.run(0), 0);
        CHECK.same("run(0): steps", x.steps(), 0);
        CHECK.registers("run(0)", x, 0, 0, 0, 0, 0, 0, 0, 0);
        CHECK.same("run(1)", x.run(1), 0);
        CHECK.registers("run(1)", x, 1, 0, 0, 0, 0, 0, 0, 2);
        CHECK.same("run(2)", x.run(2), 0);
        CHECK.registers("run(2) goes on", x, 2, 0, 0, 0, 0, 0, 0, 2);
        CHECK.same("run(4999)", x.run(4999), 0);
        CHECK.same("run(4999): steps", x.steps(), 4999);
        CHECK.registers("run(4999)", x, 2501, 0, 0, 0, 0, 0, 0, 0);
        CHECK.same("run(5000)", x.run(5000), 0);
        CHECK.same("run(5000): steps", x.steps(), 5000);
        CHECK.registers("run(5000)", x, 5001, 0, 0, 0, 0, 0, 0, 0);
        x.put(7, 4097);
        CHECK.same("run(0) does not look at what comes", x.run(0), 0);
        x.put(7, 4096);
        CHECK.same("run(0) at no place", x.run(0), 0);
    }

    private static void runToHalt() {
        CHECK.sentence("Promise 9", "1 HALT (it is done, too)");
        int[] most = {1, 2, 3, 5000};
        int[] answers = {0, 1, 1, 1};
        int[] done = {1, 2, 2, 2};
        for (int i = 0; i < most.length; i++) {
            WordGuest x = new WordGuest();
            Check.pokeAll(x, 100, 005200, 0, 005200);
            x.put(7, 100);
            CHECK.same("run(" + most[i] + ")", x.run(most[i]), answers[i]);
            CHECK.same("run(" + most[i] + "): steps", x.steps(), done[i]);
            CHECK.registers("run(" + most[i] + ")", x, 1, 0, 0, 0, 0, 0, 0, 100 + 2 * done[i]);
        }
        WordGuest x = new WordGuest();
        CHECK.same("HALT at once", x.run(1), 1);
        CHECK.same("HALT again, at the next place", x.run(9), 1);
        CHECK.same("steps", x.steps(), 1);
        CHECK.same("place", x.register(7), 4);
    }

    private static void runToAFault() {
        CHECK.sentence("Promise 9", "2 ODD, 3 NONE, 4 UNKNOWN.");
        int[] targets = {301, 4096, 300};
        for (int i = 0; i < targets.length; i++) {
            WordGuest x = new WordGuest();
            Check.pokeAll(x, 100, 005200, 000137, targets[i]);
            x.poke(300, 7);
            x.put(7, 100);
            CHECK.same("before the fault", x.run(2), 0);
            x.put(7, 100);
            CHECK.same("the fault as the last one", x.run(3), 2 + i);
            CHECK.same("a fault is not done", x.steps(), 2);
            CHECK.same("place", x.register(7), targets[i]);
            CHECK.same("the same again", x.run(5000), 2 + i);
            CHECK.same("nothing is done", x.steps(), 0);
            CHECK.registers("as before", x, 2, 0, 0, 0, 0, 0, 0, targets[i]);
        }
    }

    private static void runRefuses() {
        CHECK.sentence("Promise 9", "IllegalArgumentException: n is not 0 .. 5000.");
        for (int n : NO_RUNS) {
            refused("run(" + n + ")", IllegalArgumentException.class, x -> x.run(n));
        }
    }

    private static void steps() {
        CHECK.sentence("Promise 10", "How many instructions the latest run() did.");
        WordGuest x = counting();
        CHECK.same("no run yet", x.steps(), 0);
        int[] runs = {3, 1, 5000, 0, 7};
        for (int n : runs) {
            x.run(n);
            CHECK.same("steps of run(" + n + ")", x.steps(), n);
            CHECK.same("and again", x.steps(), n);
        }
        CHECK.throwsArgument("run(-1)", () -> x.run(-1));
        CHECK.same("steps of the run before", x.steps(), 7);
        x.poke(0, 7);
        x.put(7, 0);
        CHECK.same("a fault at once", x.run(9), 4);
        CHECK.same("steps to a fault at once", x.steps(), 0);
        x.poke(0, 0);
        CHECK.same("HALT", x.run(9), 1);
        CHECK.same("steps to HALT at once", x.steps(), 1);
    }

    private static void output() {
        CHECK.sentence("Promise 11", "Output k, from 0.");
        WordGuest x = busy();
        CHECK.same("output(0)", x.output(0), 0xFEDC);
        CHECK.same("output(1)", x.output(1), 0xDC);
        CHECK.same("output(0) again", x.output(0), 0xFEDC);
        CHECK.same("outputs", x.outputs(), 2);
    }

    private static void outputRefuses() {
        CHECK.sentence("Promise 11", "IndexOutOfBoundsException.");
        for (int k : new int[] {-2, -1, 2, 3, 399, 400, 401, 65536, LEAST, GREATEST}) {
            refused("output(" + k + ") of 2", IndexOutOfBoundsException.class, x -> x.output(k));
        }
        for (int k : new int[] {-1, 0, 1}) {
            CHECK.throwsIndex("output(" + k + ") of none", () -> new WordGuest().output(k));
        }
    }

    private static void outputs() {
        CHECK.sentence("Promise 12", "How many outputs are told.");
        WordGuest x = new WordGuest();
        Check.pokeAll(x, 0, 010037, 4094, 000775);
        CHECK.same("none", x.outputs(), 0);
        x.run(1);
        CHECK.same("one", x.outputs(), 1);
        x.run(1);
        CHECK.same("no more by a branch", x.outputs(), 1);
        x.run(1);
        CHECK.same("two", x.outputs(), 2);
        CHECK.throwsIndex("output(2)", () -> x.output(2));
        CHECK.same("two, behind a call that threw", x.outputs(), 2);
    }

    /** Every word of memory is filled, and then cleared. */
    private static WordGuest cleared() {
        WordGuest x = new WordGuest();
        for (int place = 0; place < 4096; place += 20) {
            x.load(place, -1, -1, -1, -1, -1);
        }
        Check.pokeAll(x, 100, 010037, 4094, 0);
        for (int k = 0; k < 7; k++) {
            x.put(k, 0xFFFF);
        }
        x.put(7, 100);
        x.flag(15);
        CHECK.same("run before clear", x.run(5), 1);
        CHECK.same("outputs before clear", x.outputs(), 1);
        CHECK.same("steps before clear", x.steps(), 2);
        x.clear();
        return x;
    }

    private static void clear() {
        CHECK.sentence("Promise 13", "All 0 again.");
        allZero("cleared", PromisesTest::cleared);
        allZero("cleared twice", () -> {
            WordGuest x = cleared();
            x.clear();
            return x;
        });
        allZero("cleared at first", () -> {
            WordGuest x = new WordGuest();
            x.clear();
            return x;
        });
        WordGuest x = cleared();
        Check.pokeAll(x, 0, 010037, 4094, 0);
        x.put(0, 9);
        CHECK.same("run after clear", x.run(5), 1);
        CHECK.same("outputs after clear", x.outputs(), 1);
        CHECK.same("output(0) after clear", x.output(0), 9);
        CHECK.throwsIndex("output(1) after clear", () -> x.output(1));
    }

    /** A machine with something in all its parts: two outputs, three steps, both ends of memory. */
    private static WordGuest busy() {
        WordGuest x = new WordGuest();
        for (int place = 0; place < 4080; place += 80) {
            x.load(place, 0x11112222, 0x33334444, 0x55556666, 0x77778888, 0x9999AAAA);
        }
        Check.pokeAll(x, 100, 010037, 4094, 0110037, 4094, 0);
        for (int k = 0; k < 7; k++) {
            x.put(k, 0xFEDC + k);
        }
        x.put(7, 100);
        x.flag(15);
        x.run(3);
        return x;
    }

    private interface Use {
        void of(WordGuest x);
    }

    /** The call throws, and behind it all answers are those of a machine without that call. */
    private static void refused(String what, Class<? extends RuntimeException> due, Use use) {
        for (int from = 0; from < 4096; from += 2 * PART) {
            WordGuest x = busy();
            WordGuest twin = busy();
            CHECK.throwing(what, due, () -> use.of(x));
            for (int k = 0; k < 8; k++) {
                CHECK.same(what + ": register " + k, x.register(k), twin.register(k));
            }
            CHECK.same(what + ": flags", x.flags(), twin.flags());
            CHECK.same(what + ": steps", x.steps(), twin.steps());
            CHECK.same(what + ": outputs", x.outputs(), 2);
            CHECK.same(what + ": output(0)", x.output(0), twin.output(0));
            CHECK.same(what + ": output(1)", x.output(1), twin.output(1));
            for (int place = from; place < Math.min(from + 2 * PART, 4096); place += 2) {
                CHECK.same(what + ": word", x.word(place), twin.word(place));
            }
        }
    }

    /** Throws if and only if it is due, and then no other exception. */
    private static void throwsIf(boolean isDue, String what, Class<? extends RuntimeException> due, Check.Call call) {
        if (isDue) {
            CHECK.throwing(what, due, call);
        } else {
            call.make();
            CHECK.same(what, true, true);
        }
    }

    private static void throwsWhatIsNamed() {
        CHECK.sentence("The methods", "Methods throw what their comments name, the one named first when several would do.");
        Class<IndexOutOfBoundsException> index = IndexOutOfBoundsException.class;
        for (int bit = 0; bit < 32; bit++) {
            for (int beside = -2; beside <= 2; beside++) {
                int v = (1 << bit) + beside;
                WordGuest x = busy();
                boolean noWord = v < 0 || v > 4095 || v % 2 != 0;
                boolean noRegister = v < 0 || v > 7;
                throwsIf(noWord, "load(" + v + ")", index, () -> x.load(v, v, v, v, v, v));
                throwsIf(noWord, "word(" + v + ")", index, () -> x.word(v));
                throwsIf(noWord, "poke(" + v + ")", index, () -> x.poke(v, v));
                throwsIf(noRegister, "register(" + v + ")", index, () -> x.register(v));
                throwsIf(noRegister, "put(" + v + ")", index, () -> x.put(v, v));
                throwsIf(v < 0 || v > 1, "output(" + v + ")", index, () -> x.output(v));
                throwsIf(false, "flag(" + v + ")", index, () -> x.flag(v));
                throwsIf(v < 0 || v > 5000, "run(" + v + ")", IllegalArgumentException.class, () -> x.run(v));
            }
        }
    }

    private static void noSuchPlaceRegisterOutput() {
        CHECK.sentence("The methods", "IndexOutOfBoundsException: there is no such place, register, output.");
        WordGuest x = busy();
        CHECK.same("the first place", x.word(0), 0x1111);
        CHECK.same("the last place", x.word(4094), 0xFEDC);
        CHECK.same("the first register", x.register(0), 0xFEDC);
        CHECK.same("the last register", x.register(7), 110);
        CHECK.same("the first output", x.output(0), 0xFEDC);
        CHECK.same("the last output", x.output(1), 0xDC);
        CHECK.throwsIndex("a place before", () -> x.word(-2));
        CHECK.throwsIndex("a place behind", () -> x.word(4096));
        CHECK.throwsIndex("a register before", () -> x.register(-1));
        CHECK.throwsIndex("a register behind", () -> x.register(8));
        CHECK.throwsIndex("an output before", () -> x.output(-1));
        CHECK.throwsIndex("an output behind", () -> x.output(2));
    }

    private static void throwingChangesNothing() {
        CHECK.sentence("The methods", "A call that throws changes nothing.");
        refused("several one behind the other", IllegalArgumentException.class, x -> {
            CHECK.throwsIndex("load", () -> x.load(4096, 0, 0, 0, 0, 0));
            CHECK.throwsIndex("load", () -> x.load(4093, 0, 0, 0, 0, 0));
            CHECK.throwsIndex("word", () -> x.word(-2));
            CHECK.throwsIndex("poke", () -> x.poke(4096, 0));
            CHECK.throwsIndex("register", () -> x.register(8));
            CHECK.throwsIndex("put", () -> x.put(-1, 0));
            CHECK.throwsIndex("output", () -> x.output(2));
            x.run(5001);
        });
    }

    private static void upTo512Calls() {
        CHECK.sentence("What it is", "An object is used for at most 512 calls after it has been made");
        WordGuest x = counting();
        for (int call = 3; call < 511; call += 2) {
            CHECK.same("run, call " + call, x.run(5000), 0);
            CHECK.same("register, call " + (call + 1), x.register(0), 2500 * (call / 2) & 0xFFFF);
        }
        CHECK.same("steps, call 511", x.steps(), 5000);
        CHECK.same("place, call 512", x.register(7), 0);
    }
}
