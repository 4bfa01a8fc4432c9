import java.util.Random;

/** Every code, and runs of codes, in machines by a fixed seed: the program against the oracle. */
public final class RandomRunsTest {
    private static final Check CHECK = new Check();
    private static final Random DICE = new Random(20261115);
    private static final int[] EDGES = {0, 1, 2, 0x7F, 0x80, 0xFF, 0x7FFF, 0x8000, 0x8001, 0xFFFE, 0xFFFF, 4094, 4095, 4096};
    private static final int[] ENDINGS = new int[5];

    public static void main(String[] args) {
        for (int i = 0; i < 60000; i++) {
            runs(i);
        }
        for (int code = 0; code < 65536; code++) {
            single(code);
        }
        for (int ending = 0; ending < 5; ending++) {
            CHECK.same("ending " + ending + " was seen", ENDINGS[ending] > 100, true);
        }
        CHECK.end();
    }

    private static int value() {
        switch (DICE.nextInt(6)) {
            case 0: return EDGES[DICE.nextInt(EDGES.length)];
            case 1: return DICE.nextInt(65536);
            case 2: return DICE.nextInt(4096);
            default: return 2 * DICE.nextInt(150);
        }
    }

    /** All codes, the rarer families as often as those with two operands. */
    private static int code() {
        switch (DICE.nextInt(6)) {
            case 0: return 070000 + DICE.nextInt(010000);
            case 1: return DICE.nextInt(2) * 0100000 + 005000 + DICE.nextInt(02000);
            case 2: return DICE.nextInt(01000);
            case 3: return 004000 + DICE.nextInt(01000);
            default: return DICE.nextInt(65536);
        }
    }

    private static void load(WordGuest x, Oracle o, int place) {
        int[] words = new int[10];
        for (int i = 0; i < 10; i++) {
            words[i] = DICE.nextInt(3) > 0 ? code() : value();
            if (place + 2 * i < 4096) {
                o.poke(place + 2 * i, words[i]);
            }
        }
        int[] pairs = new int[5];
        for (int i = 0; i < 5; i++) {
            pairs[i] = words[2 * i] << 16 | words[2 * i + 1];
        }
        x.load(place, pairs[0], pairs[1], pairs[2], pairs[3], pairs[4]);
    }

    private static void fill(WordGuest x, Oracle o) {
        for (int k = 0; k < 15; k++) {
            load(x, o, 20 * k);
        }
        load(x, o, 4078);
        for (int k = 0; k < 8; k++) {
            int word = k == 7 ? 2 * DICE.nextInt(140) : value();
            x.put(k, word);
            o.r[k] = word;
        }
        int flags = DICE.nextInt(16);
        x.flag(flags);
        o.flag(flags);
    }

    private static void runs(int i) {
        WordGuest x = new WordGuest();
        Oracle o = new Oracle();
        fill(x, o);
        for (int part = 0; part < 3; part++) {
            int most = part == 2 ? 40 : 1;
            int due = o.run(most);
            ENDINGS[due]++;
            compare("case " + i + ", part " + part, x, o, x.run(most), due);
        }
    }

    private static void single(int code) {
        WordGuest x = new WordGuest();
        Oracle o = new Oracle();
        fill(x, o);
        x.poke(o.r[7], code);
        o.poke(o.r[7], code);
        compare("code " + Check.octal(code), x, o, x.run(1), o.run(1));
    }

    private static void compare(String what, WordGuest x, Oracle o, int got, int due) {
        CHECK.same(what + ": run", got, due);
        CHECK.registers(what, x, o.r);
        CHECK.same(what + ": flags", x.flags(), o.flags());
        CHECK.same(what + ": steps", x.steps(), o.steps);
        CHECK.same(what + ": outputs", x.outputs(), o.outputs.size());
        for (int k = 0; k < o.outputs.size() && k < x.outputs(); k++) {
            CHECK.same(what + ": output " + k, x.output(k), o.outputs.get(k));
        }
        for (int place : o.written) {
            CHECK.same(what + ": word " + place, x.word(place), o.word(place));
        }
        for (int k = 0; k < 20; k++) {
            int place = 2 * DICE.nextInt(k < 15 ? 160 : 2048);
            CHECK.same(what + ": word " + place, x.word(place), o.word(place));
        }
    }
}
