import java.util.Arrays;

/**
 * One instruction in a machine whose whole state is told, and the whole state that is due behind
 * it: whatever a scene does not tell otherwise must stay, every word of memory included.
 */
final class Scene {
    static final int DONE = 0;
    static final int HALTED = 1;
    static final int ODD = 2;
    static final int NONE = 3;
    static final int UNKNOWN = 4;

    private static final int WORDS = 2048;
    private static final int STAYS = -1;
    /** An object answers for 512 calls only: it is made anew for each part of its memory. */
    private static final int LOOKED_AT_ONCE = 400;

    private final Check check;
    private final String what;
    private final int[] words = new int[WORDS];
    /** All differ, and those that a scene does not mean to use as places are none. */
    private final int[] registers = {0x1110, 0x2221, 0x3332, 0x4443, 0x5554, 0x6665, 2000, 100};
    private int flags;
    private final int[] wordsDue = new int[WORDS];
    private final int[] registersDue = new int[8];
    private int flagsDue = STAYS;
    private int[] toldDue = {};

    Scene(Check check, String what) {
        this.check = check;
        this.what = what;
        Arrays.fill(wordsDue, STAYS);
        Arrays.fill(registersDue, STAYS);
    }

    /** Words at a place, which is the PLACE of the next instruction. */
    Scene code(int place, int... code) {
        return words(place, code).register(7, place);
    }

    Scene words(int place, int... values) {
        for (int i = 0; i < values.length; i++) {
            words[place / 2 + i] = values[i] & 0xFFFF;
        }
        return this;
    }

    Scene register(int k, int v) {
        registers[k] = v & 0xFFFF;
        return this;
    }

    Scene flags(int f) {
        flags = f;
        return this;
    }

    Scene thenWords(int place, int... values) {
        for (int i = 0; i < values.length; i++) {
            wordsDue[place / 2 + i] = values[i] & 0xFFFF;
        }
        return this;
    }

    Scene thenRegister(int k, int v) {
        registersDue[k] = v & 0xFFFF;
        return this;
    }

    Scene thenFlags(int f) {
        flagsDue = f;
        return this;
    }

    Scene thenTold(int... values) {
        toldDue = values;
        return this;
    }

    /** The instruction is done, and PLACE is this. */
    void done(int place) {
        thenRegister(7, place).verify(DONE, 1);
    }

    void halted(int place) {
        thenRegister(7, place).verify(HALTED, 1);
    }

    /** The instruction has this fault, and all is as before. */
    void faulty(int answer) {
        verify(answer, 0);
    }

    private void verify(int answer, int steps) {
        for (int from = 0; from < WORDS; from += LOOKED_AT_ONCE) {
            WordGuest x = made();
            check.same(what, x.run(1), answer);
            check.same(what + ": steps", x.steps(), steps);
            for (int k = 0; k < 8; k++) {
                check.same(what + ": register " + k, x.register(k), due(registersDue[k], registers[k]));
            }
            check.same(what + ": flags", x.flags(), due(flagsDue, flags));
            check.same(what + ": outputs", x.outputs(), toldDue.length);
            for (int k = 0; k < Math.min(toldDue.length, x.outputs()); k++) {
                check.same(what + ": output " + k, x.output(k), toldDue[k]);
            }
            lookAtMemory(x, from, Math.min(from + LOOKED_AT_ONCE, WORDS));
        }
    }

    /** The text is made for words that are not as due alone: there are many words. */
    private void lookAtMemory(WordGuest x, int from, int to) {
        for (int k = from; k < to; k++) {
            int got = x.word(2 * k);
            int due = due(wordsDue[k], words[k]);
            if (got != due) {
                check.same(what + ": word " + 2 * k, got, due);
            }
        }
    }

    private WordGuest made() {
        WordGuest x = new WordGuest();
        for (int k = 0; k < WORDS; k++) {
            if (words[k] != 0) {
                x.poke(2 * k, words[k]);
            }
        }
        for (int k = 0; k < 8; k++) {
            x.put(k, registers[k]);
        }
        x.flag(flags);
        return x;
    }

    private static int due(int told, int before) {
        return told == STAYS ? before : told;
    }
}
