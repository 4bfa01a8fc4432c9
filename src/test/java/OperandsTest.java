/** The eight ways of operands, for words and bytes, and the order in which things are done. */
public final class OperandsTest {
    private static final Check CHECK = new Check();

    public static void main(String[] args) {
        waysOfTheFirst();
        waysOfTheSecond();
        strides();
        waysThroughPlace();
        order();
        bytesInRegisters();
        wordsGoRound();
        jumps();
        calls();
        returns();
        CHECK.end();
    }

    /** Place 300 holds 302, 302 holds 0x8182, 304 holds 300; the code stands at 100. */
    private static WordGuest machine(int... code) {
        WordGuest x = new WordGuest();
        Check.pokeAll(x, 300, 302, 0x8182, 300);
        Check.pokeAll(x, 100, code);
        x.put(7, 100);
        x.put(6, 2000);
        return x;
    }

    private static void first(String what, int way, int before, int after, int value, int index) {
        WordGuest x = machine(010001 | (way * 8 + 2) << 6, index);
        x.put(2, before);
        CHECK.same(what, x.run(1), 0);
        CHECK.registers(what, x, 0, value, after, 0, 0, 0, 2000, way >= 6 ? 104 : 102);
    }

    private static void waysOfTheFirst() {
        first("way 0", 0, 302, 302, 302, 0);
        first("way 1", 1, 302, 302, 0x8182, 0);
        first("way 2", 2, 302, 304, 0x8182, 0);
        first("way 3", 3, 300, 302, 0x8182, 0);
        first("way 4", 4, 304, 302, 0x8182, 0);
        first("way 5", 5, 302, 300, 0x8182, 0);
        first("way 6", 6, 200, 200, 0x8182, 102);
        first("way 6 below", 6, 304, 304, 0x8182, -2);
        first("way 7", 7, 200, 200, 0x8182, 100);
    }

    private static void second(String what, int way, int before, int after, int index) {
        WordGuest x = machine(060100 | (way * 8 + 2), index);
        x.put(1, 1);
        x.put(2, before);
        CHECK.same(what, x.run(1), 0);
        CHECK.registers(what, x, 0, 1, after, 0, 0, 0, 2000, way >= 6 ? 104 : 102);
        CHECK.same(what + ": written", x.word(302), way == 0 ? 0x8182 : 0x8183);
    }

    private static void waysOfTheSecond() {
        second("to way 0", 0, 302, 303, 0);
        second("to way 1", 1, 302, 302, 0);
        second("to way 2", 2, 302, 304, 0);
        second("to way 3", 3, 300, 302, 0);
        second("to way 4", 4, 304, 302, 0);
        second("to way 5", 5, 302, 300, 0);
        second("to way 6", 6, 200, 200, 102);
        second("to way 7", 7, 200, 200, 100);
    }

    /** Register r, by a byte instruction of one operand: how far it goes. */
    private static void stride(int code, int r, int due) {
        WordGuest x = machine(code | r);
        int before = r == 7 ? 102 : 306;
        if (r != 7) {
            x.put(r, 306);
        }
        CHECK.same(Check.octal(code | r), x.run(1), 0);
        CHECK.same(Check.octal(code | r) + ": register", x.register(r), before + due);
    }

    private static void strides() {
        for (int r = 0; r < 8; r++) {
            boolean even = r >= 6;
            stride(0105720, r, even ? 2 : 1);
            stride(0105740, r, even ? -2 : -1);
            stride(0105730, r, 2);
            if (r != 7) {
                // by 7 its own code would be the place, and that is beyond
                stride(0105750, r, -2);
            }
            stride(005720, r, 2);
            stride(005740, r, -2);
            stride(005730, r, 2);
        }
        WordGuest x = machine(0112203, 0112203);
        x.put(2, 302);
        CHECK.same("two bytes", x.run(1), 0);
        CHECK.same("lower byte first", x.register(3), 0xFF82);
        CHECK.same("two bytes", x.run(1), 0);
        CHECK.same("higher byte behind it", x.register(3), 0xFF81);
        CHECK.same("register", x.register(2), 304);
    }

    private static void waysThroughPlace() {
        WordGuest x = machine(012701, 77, 013702, 302, 016703, 302 - 112, 017704, 300 - 116);
        CHECK.same("by place", x.run(4), 0);
        CHECK.registers("by place", x, 0, 77, 0x8182, 0x8182, 0x8182, 0, 2000, 116);
        x = machine(011701, 012702, 55);
        CHECK.same("at place itself", x.run(1), 0);
        CHECK.same("the next word", x.register(1), 012702);
        x = machine(0112701, 0x1234);
        CHECK.same("byte behind", x.run(1), 0);
        CHECK.registers("byte behind", x, 0, 0x34, 0, 0, 0, 0, 2000, 104);
        x = machine(016767, 302 - 104, 200 - 106);
        CHECK.same("both by index", x.run(1), 0);
        CHECK.same("both by index: written", x.word(200), 0x8182);
        x = machine(014700);
        CHECK.same("before place", x.run(1), 0);
        CHECK.registers("before place", x, 014700, 0, 0, 0, 0, 0, 2000, 100);
    }

    private static void order() {
        WordGuest x = machine(010222);
        x.put(2, 302);
        x.run(1);
        CHECK.same("the first is read before the second grows", x.word(302), 302);
        x = machine(010242);
        x.put(2, 302);
        x.run(1);
        CHECK.same("the first is read before the second shrinks", x.word(300), 302);
        x = machine(062202);
        x.put(2, 302);
        x.run(1);
        CHECK.same("the second is read when the first has grown", x.register(2), 0x8182 + 304);
        x = machine(012222);
        x.put(2, 300);
        x.run(1);
        CHECK.same("both grow", x.register(2), 304);
        CHECK.same("both grow: written", x.word(302), 302);
        x = machine(066262, 2, 4);
        x.put(2, 298);
        x.run(1);
        CHECK.same("first index first", x.word(302), (302 + 0x8182) & 0xFFFF);
        x = machine(010667);
        x.put(6, 302);
        x.run(1);
        CHECK.same("index word is 0", x.word(104), 302);
        x = machine(010746);
        x.run(1);
        CHECK.same("place on the stack", x.word(1998), 102);
        x = machine(010646);
        x.run(1);
        CHECK.same("the stack's register on the stack", x.word(1998), 2000);
        x = machine(070222);
        x.put(2, 302);
        x.run(1);
        CHECK.same("product with what grew: low", x.register(3), ((short) 0x8182 * 304) & 0xFFFF);
        x = machine(005062, 302);
        x.run(1);
        CHECK.same("cleared by index", x.word(302), 0);
    }

    private static void byteOne(int code, int before, int after) {
        WordGuest x = machine(code);
        x.put(1, before);
        CHECK.same(Check.octal(code), x.run(1), 0);
        CHECK.same(Check.octal(code) + ": register", x.register(1), after);
    }

    private static void bytesInRegisters() {
        byteOne(0105001, 0x1234, 0x1200);
        byteOne(0105101, 0x1234, 0x12CB);
        byteOne(0105201, 0x12FF, 0x1200);
        byteOne(0105301, 0x1200, 0x12FF);
        byteOne(0105401, 0x1201, 0x12FF);
        byteOne(0106301, 0x1281, 0x1202);
        byteOne(0106201, 0x1281, 0x12C0);
        byteOne(0106001, 0x1281, 0x1240);
        byteOne(0106101, 0x1281, 0x1202);
        byteOne(0105701, 0x1281, 0x1281);
        byteOne(0110101, 0x1281, 0xFF81);
        byteOne(0110101, 0xFF7F, 0x007F);
        WordGuest x = machine(0140102, 0150103, 0120102);
        x.put(1, 0xFF0F);
        x.put(2, 0x12FF);
        x.put(3, 0x1200);
        CHECK.same("bits of bytes", x.run(3), 0);
        CHECK.registers("bits of bytes", x, 0, 0xFF0F, 0x12F0, 0x120F);
        x = machine(0110112, 0110113);
        x.put(1, 0x7766);
        x.put(2, 302);
        x.put(3, 305);
        CHECK.same("bytes to memory", x.run(2), 0);
        CHECK.same("lower byte", x.word(302), 0x8166);
        CHECK.same("higher byte", x.word(304), 0x662C);
    }

    private static void wordsGoRound() {
        WordGuest x = machine(005722, 005743);
        x.poke(0, 5);
        x.put(2, 65534);
        CHECK.same("beyond is a fault", x.run(1), 3);
        x.put(2, 4094);
        CHECK.same("last word", x.run(1), 0);
        CHECK.same("grown", x.register(2), 4096);
        x = machine(016201, 4);
        x.poke(2, 99);
        x.put(2, 65534);
        CHECK.same("index around", x.run(1), 0);
        CHECK.same("index around: value", x.register(1), 99);
        x = machine(000162, 4);
        x.put(2, 65534);
        CHECK.same("jump around", x.run(1), 0);
        CHECK.same("jump around: place", x.register(7), 2);
        x = new WordGuest();
        x.poke(0, 000600);
        CHECK.same("branch below 0", x.run(1), 0);
        CHECK.same("branch below 0: place", x.register(7), 65536 + 2 - 256);
    }

    private static void jump(String what, int code, int r, int rAfter, int due) {
        WordGuest x = machine(code, 102);
        x.put(2, r);
        x.flag(5);
        CHECK.same(what, x.run(1), 0);
        CHECK.registers(what, x, 0, 0, rAfter, 0, 0, 0, 2000, due);
        CHECK.same(what + ": flags", x.flags(), 5);
    }

    private static void jumps() {
        jump("jump 1", 000112, 302, 302, 302);
        jump("jump 1 odd", 000112, 303, 303, 303);
        jump("jump 1 beyond", 000112, 60000, 60000, 60000);
        jump("jump 2", 000122, 302, 304, 302);
        jump("jump 3", 000132, 300, 302, 302);
        jump("jump 4", 000142, 302, 300, 300);
        jump("jump 5", 000152, 302, 300, 302);
        jump("jump 6", 000162, 200, 200, 302);
        jump("jump 7", 000172, 198, 198, 302);
        jump("jump by place", 000127, 0, 0, 102);
        jump("jump to what stands behind", 000137, 0, 0, 102);
        jump("jump from place", 000167, 0, 0, 206);
    }

    private static void calls() {
        WordGuest x = machine(004562, 102);
        x.put(2, 200);
        x.put(5, 1234);
        x.flag(10);
        CHECK.same("call", x.run(1), 0);
        CHECK.registers("call", x, 0, 0, 200, 0, 0, 104, 1998, 302);
        CHECK.same("call: stack", x.word(1998), 1234);
        CHECK.same("call: flags", x.flags(), 10);
        x = machine(004737, 500);
        CHECK.same("call by place", x.run(1), 0);
        CHECK.registers("call by place", x, 0, 0, 0, 0, 0, 0, 1998, 500);
        CHECK.same("call by place: stack", x.word(1998), 104);
        x = machine(004736);
        x.poke(2000, 700);
        CHECK.same("call by the stack", x.run(1), 0);
        CHECK.registers("call by the stack", x, 0, 0, 0, 0, 0, 0, 2000, 700);
        CHECK.same("call by the stack: both exchanged", x.word(2000), 102);
        x = machine(004222);
        x.put(2, 303);
        CHECK.same("call to an odd place", x.run(1), 0);
        CHECK.registers("call to an odd place", x, 0, 0, 102, 0, 0, 0, 1998, 303);
        CHECK.same("call to an odd place: stack", x.word(1998), 305);
    }

    private static void returns() {
        WordGuest x = machine(000205);
        x.poke(2000, 1234);
        x.put(5, 601);
        x.flag(10);
        CHECK.same("return", x.run(1), 0);
        CHECK.registers("return", x, 0, 0, 0, 0, 0, 1234, 2002, 601);
        CHECK.same("return: flags", x.flags(), 10);
        x = machine(000207);
        x.poke(2000, 1234);
        CHECK.same("return by place", x.run(1), 0);
        CHECK.registers("return by place", x, 0, 0, 0, 0, 0, 0, 2002, 1234);
        x = machine(000206);
        x.poke(2000, 1234);
        CHECK.same("return by the stack's register", x.run(1), 0);
        CHECK.registers("return by the stack's register", x, 0, 0, 0, 0, 0, 0, 1234, 2000);
    }
}
