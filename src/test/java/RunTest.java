/** Promises 9 to 12: runs, their endings and steps, faults that leave all as it was, and the port. */
public final class RunTest {
    private static final Check CHECK = new Check();
    private static final int DONE = 0;
    private static final int HALTED = 1;
    private static final int ODD = 2;
    private static final int BEYOND = 3;
    private static final int UNKNOWN = 4;

    public static void main(String[] args) {
        promise9Bounds();
        promise9Endings();
        promise10();
        faultsOfPlaces();
        firstFaultCounts();
        faultsLeaveAll();
        promises11And12();
        onlyFirst400();
        portIsOnePlace();
        codeWritesOverItself();
        CHECK.end();
    }

    private static void promise9Bounds() {
        WordGuest x = new WordGuest();
        Check.pokeAll(x, 0, 005200, 000776);
        CHECK.same("run(3)", x.run(3), DONE);
        for (int n : new int[] {-1, 5001, 65536, Integer.MIN_VALUE, Integer.MAX_VALUE}) {
            CHECK.throwsArgument("run(" + n + ")", () -> x.run(n));
        }
        CHECK.registers("runs that threw", x, 2, 0, 0, 0, 0, 0, 0, 2);
        CHECK.same("steps of runs that threw", x.steps(), 3);
        CHECK.same("run(0)", x.run(0), DONE);
        CHECK.same("steps of run(0)", x.steps(), 0);
        CHECK.same("place after run(0)", x.register(7), 2);
        CHECK.same("run(5000)", x.run(5000), DONE);
        CHECK.same("steps of run(5000)", x.steps(), 5000);
        CHECK.same("register(0)", x.register(0), 2502);
    }

    private static void promise9Endings() {
        WordGuest x = new WordGuest();
        CHECK.same("HALT at once", x.run(1), HALTED);
        CHECK.same("HALT is done", x.steps(), 1);
        CHECK.same("HALT goes on", x.register(7), 2);
        Check.pokeAll(x, 100, 005200, 0);
        x.put(7, 100);
        CHECK.same("so many, before HALT", x.run(1), DONE);
        CHECK.same("HALT as the last one", x.run(1), HALTED);
        x.put(7, 100);
        CHECK.same("run(2) with HALT as the last one", x.run(2), HALTED);
        x.put(7, 100);
        CHECK.same("run(0) before anything", x.run(0), DONE);
        x.put(7, 101);
        CHECK.same("run(0) at an odd place", x.run(0), DONE);
        CHECK.same("at an odd place", x.run(1), ODD);
        x.put(7, 4097);
        CHECK.same("odd goes before none", x.run(1), ODD);
        x.put(7, 4096);
        CHECK.same("beyond", x.run(1), BEYOND);
        x.put(7, 65534);
        CHECK.same("far beyond", x.run(1), BEYOND);
        CHECK.same("place stays", x.register(7), 65534);
        x.put(7, 4094);
        CHECK.same("last word", x.run(1), HALTED);
        CHECK.same("place behind the last word", x.register(7), 4096);
        x.poke(200, 7);
        x.put(7, 200);
        CHECK.same("unknown", x.run(1), UNKNOWN);
        CHECK.same("place stays", x.register(7), 200);
        CHECK.same("steps", x.steps(), 0);
    }

    private static void promise10() {
        WordGuest x = new WordGuest();
        Check.pokeAll(x, 0, 005200, 005200, 005200, 7);
        CHECK.same("steps at first", x.steps(), 0);
        CHECK.same("run", x.run(9), UNKNOWN);
        CHECK.same("steps before a fault", x.steps(), 3);
        CHECK.same("run again", x.run(9), UNKNOWN);
        CHECK.same("steps of the latest run alone", x.steps(), 0);
        x.poke(6, 0);
        CHECK.same("run to HALT", x.run(9), HALTED);
        CHECK.same("steps with HALT", x.steps(), 1);
        x.put(7, 0);
        CHECK.same("run", x.run(2), DONE);
        CHECK.same("steps", x.steps(), 2);
    }

    /** One instruction at 100, with registers 0 and 1: the answer, and that nothing has changed. */
    private static void faulty(String what, int due, int r0, int r1, int... code) {
        WordGuest x = new WordGuest();
        Check.pokeAll(x, 100, code);
        int[] registers = {r0, r1, 22, 33, 44, 55, 2000, 100};
        for (int k = 0; k < 8; k++) {
            x.put(k, registers[k]);
        }
        for (int flags = 0; flags < 16; flags += 5) {
            x.flag(flags);
            CHECK.same(what, x.run(1), due);
            CHECK.same(what + ": steps", x.steps(), 0);
            CHECK.same(what + ": flags", x.flags(), flags);
            CHECK.registers(what, x, registers);
        }
        for (int i = 0; i < code.length; i++) {
            CHECK.same(what + ": code " + i, x.word(100 + 2 * i), code[i]);
        }
        CHECK.same(what + ": outputs", x.outputs(), 0);
    }

    private static void faultsOfPlaces() {
        faulty("move odd word", ODD, 301, 0, 011001);
        faulty("move to odd word", ODD, 1, 301, 010011);
        faulty("move word beyond", BEYOND, 4096, 0, 012001);
        faulty("move odd word beyond", ODD, 4097, 0, 012001);
        faulty("move byte beyond", BEYOND, 4096, 0, 0112001);
        faulty("move odd byte beyond", BEYOND, 4097, 0, 0112001);
        faulty("word below 0", BEYOND, 0, 0, 014001);
        faulty("odd word below 0", ODD, 1, 0, 014001);
        faulty("byte below 0", BEYOND, 0, 0, 0114001);
        faulty("odd pointer", ODD, 301, 0, 0113001);
        faulty("pointer beyond", BEYOND, 4096, 0, 0113001);
        faulty("odd pointer behind", ODD, 303, 0, 0115001);
        faulty("index to odd", ODD, 300, 0, 016001, 1);
        faulty("index beyond", BEYOND, 4000, 0, 016001, 96);
        faulty("index around", BEYOND, 0, 0, 016001, 65534);
        faulty("odd pointer by index", ODD, 300, 0, 0117001, 1);
        faulty("clear odd", ODD, 301, 0, 005020);
        faulty("clear byte beyond", BEYOND, 4096, 0, 0105020);
        faulty("sign to odd", ODD, 301, 0, 006720);
        faulty("exchange at odd", ODD, 301, 0, 000320);
        faulty("product by odd", ODD, 301, 0, 070220);
        faulty("either at odd", ODD, 301, 0, 074220);
        faulty("jump by odd pointer", ODD, 301, 0, 000130);
        faulty("jump by pointer beyond", BEYOND, 4096, 0, 000130);
        faulty("jump to a register", UNKNOWN, 300, 0, 000100);
        faulty("call of a register", UNKNOWN, 300, 0, 004700);
        faulty("quotient into odd register", UNKNOWN, 300, 1, 071100);
        faulty("quotient into odd register, operand odd", UNKNOWN, 301, 1, 071120);
        faulty("test odd", ODD, 301, 0, 005720);
        faulty("compare with odd", ODD, 300, 301, 022021);
    }

    private static void firstFaultCounts() {
        faulty("first odd, second beyond", ODD, 301, 4096, 012021);
        faulty("first beyond, second odd", BEYOND, 4096, 301, 012021);
        faulty("first good, second beyond", BEYOND, 300, 4096, 012021);
        faulty("pointer beyond before odd place", BEYOND, 4096, 301, 013021);
        WordGuest x = new WordGuest();
        x.poke(4094, 016001);
        x.put(7, 4094);
        CHECK.same("index word beyond", x.run(1), BEYOND);
        CHECK.same("place", x.register(7), 4094);
    }

    private static void faultsLeaveAll() {
        WordGuest x = new WordGuest();
        Check.pokeAll(x, 100, 004734);
        x.poke(298, 500);
        x.put(7, 100);
        x.put(4, 300);
        x.put(6, 1);
        CHECK.same("call with odd stack", x.run(1), ODD);
        CHECK.registers("call with odd stack", x, 0, 0, 0, 0, 300, 0, 1, 100);
        x.put(6, 0);
        CHECK.same("call with stack around", x.run(1), BEYOND);
        CHECK.registers("call with stack around", x, 0, 0, 0, 0, 300, 0, 0, 100);
        x.put(6, 4100);
        CHECK.same("call with stack beyond", x.run(1), BEYOND);
        x.poke(100, 000203);
        x.put(3, 800);
        CHECK.same("return with stack beyond", x.run(1), BEYOND);
        x.put(6, 4095);
        CHECK.same("return with odd stack", x.run(1), ODD);
        CHECK.registers("return with odd stack", x, 0, 0, 0, 800, 300, 0, 4095, 100);
    }

    private static void promises11And12() {
        WordGuest x = new WordGuest();
        CHECK.same("outputs at first", x.outputs(), 0);
        // word, byte, byte at 4095, increment in place, test, compare, halt
        Check.pokeAll(x, 0, 010037, 4094, 0110137, 4094, 0110137, 4095, 005237, 4094,
                005737, 4094, 020037, 4094, 0);
        x.put(0, 0xFEDC);
        x.put(1, 0x1299);
        CHECK.same("run", x.run(20), HALTED);
        CHECK.same("outputs", x.outputs(), 3);
        CHECK.same("a word", x.output(0), 0xFEDC);
        CHECK.same("a byte without sign", x.output(1), 0x99);
        CHECK.same("what an instruction made", x.output(2), 0x999A);
        CHECK.same("written as well", x.word(4094), 0x999A);
        for (int k : new int[] {-1, 3, 4, 399, 400, Integer.MIN_VALUE, Integer.MAX_VALUE}) {
            CHECK.throwsIndex("output(" + k + ")", () -> x.output(k));
        }
        x.put(6, 4096);
        Check.pokeAll(x, 200, 004737, 300);
        x.put(7, 200);
        CHECK.same("call", x.run(1), DONE);
        CHECK.same("the stack is written, too", x.outputs(), 4);
        CHECK.same("what was put on the stack", x.output(3), 204);
        CHECK.same("older outputs stay", x.output(0), 0xFEDC);
    }

    private static void onlyFirst400() {
        WordGuest x = new WordGuest();
        Check.pokeAll(x, 0, 005200, 010037, 4094, 000774);
        CHECK.same("run", x.run(1198), DONE);
        CHECK.same("399 outputs", x.outputs(), 399);
        CHECK.throwsIndex("output(399) too early", () -> x.output(399));
        CHECK.same("run", x.run(1), DONE);
        CHECK.same("run", x.run(1), DONE);
        CHECK.same("400 outputs", x.outputs(), 400);
        CHECK.same("run", x.run(3000), DONE);
        CHECK.same("not more", x.outputs(), 400);
        CHECK.same("first", x.output(0), 1);
        CHECK.same("last", x.output(399), 400);
        CHECK.throwsIndex("output(400)", () -> x.output(400));
        CHECK.same("memory is written on", x.word(4094), 1400);
    }

    private static void portIsOnePlace() {
        WordGuest x = new WordGuest();
        Check.pokeAll(x, 0, 010037, 4092, 0110037, 4093, 0110037, 4095, 0);
        x.put(0, 7);
        CHECK.same("run", x.run(9), HALTED);
        CHECK.same("beside the port", x.outputs(), 0);
        x.poke(4094, 1);
        x.load(4094, 1, 2, 3, 4, 5);
        CHECK.same("put from outside", x.outputs(), 0);
    }

    private static void codeWritesOverItself() {
        WordGuest x = new WordGuest();
        // the second instruction becomes HALT by the first one
        Check.pokeAll(x, 0, 005037, 4, 005200);
        x.poke(4, 005200);
        CHECK.same("run", x.run(9), HALTED);
        CHECK.same("steps", x.steps(), 2);
        CHECK.same("register(0)", x.register(0), 0);
    }
}
