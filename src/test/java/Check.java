/** What all tests of the project share: it counts and prints the answers that are not as due. */
final class Check {
    interface Call {
        void make();
    }

    private int wrong = 0;
    private int looked = 0;
    private int sentences = 0;
    private int lookedBefore = 0;
    private String sentence = "";

    /**
     * What follows is the test of this sentence, which the section or promise holds in these very
     * words; a sentence under which nothing is looked at counts as failed.
     */
    void sentence(String section, String words) {
        endSentence();
        sentences++;
        lookedBefore = looked;
        sentence = section + ": \"" + words + "\": ";
    }

    private void endSentence() {
        if (sentences > 0 && looked == lookedBefore) {
            wrong++;
            System.out.println(sentence + "nothing was looked at");
        }
    }

    void same(String what, long got, long due) {
        looked++;
        if (got != due) {
            wrong++;
            System.out.println(sentence + what + " answered " + got + ", due is " + due);
        }
    }

    void same(String what, boolean got, boolean due) {
        same(what, got ? 1 : 0, due ? 1 : 0);
    }

    void throwing(String what, Class<? extends RuntimeException> due, Call call) {
        looked++;
        String got = "nothing";
        try {
            call.make();
        } catch (RuntimeException e) {
            if (e.getClass() == due) {
                return;
            }
            got = e.getClass().getName();
        }
        wrong++;
        System.out.println(sentence + what + " threw " + got + ", due is " + due.getName());
    }

    void throwsIndex(String what, Call call) {
        throwing(what, IndexOutOfBoundsException.class, call);
    }

    void throwsArgument(String what, Call call) {
        throwing(what, IllegalArgumentException.class, call);
    }

    void registers(String what, WordGuest x, int... due) {
        for (int k = 0; k < due.length; k++) {
            same(what + ": register(" + k + ")", x.register(k), due[k]);
        }
    }

    /** Ends the test; a test that looked at nothing counts as failed. */
    void end() {
        endSentence();
        System.out.println(sentences + " sentences, " + looked + " answers, " + wrong + " not as due");
        if (wrong != 0 || looked == 0) {
            System.exit(1);
        }
    }

    static String octal(int code) {
        return "0" + Integer.toOctalString(code);
    }

    /** Pokes words one behind the other. */
    static void pokeAll(WordGuest x, int place, int... words) {
        for (int i = 0; i < words.length; i++) {
            x.poke(place + 2 * i, words[i]);
        }
    }
}
