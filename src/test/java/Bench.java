/** A computer together with the words that it should hold, so that a stray write shows in the sum. */
final class Bench {
    final StackComputer x = new StackComputer();
    private final int[] words = new int[256];

    Bench words(int... placesAndValues) {
        for (int i = 0; i < placesAndValues.length; i += 2) {
            x.word(placesAndValues[i], placesAndValues[i + 1]);
        }
        return expect(placesAndValues);
    }

    Bench code(int at, int... bytes) {
        load(x, at, bytes);
        return this;
    }

    Bench boot(int pc, int sp, int lv, int cpp) {
        x.boot(pc, sp, lv, cpp);
        return this;
    }

    /** From now on the words at these places should have these values. */
    Bench expect(int... placesAndValues) {
        for (int i = 0; i < placesAndValues.length; i += 2) {
            words[placesAndValues[i]] = placesAndValues[i + 1];
        }
        return this;
    }

    void checkWords(Check check, String what) {
        int sum = 0;
        for (int a = 0; a < words.length; a++) {
            if (words[a] != 0) {
                check.same("word " + a + " after " + what, x.look(a), words[a]);
            }
            sum = 31 * sum + words[a];
        }
        check.same("sum after " + what, x.sum(), sum);
    }

    /** Puts bytes at a place; up to three bytes behind them become 0, if the code goes on so far. */
    static void load(StackComputer x, int at, int... bytes) {
        int fitting = Math.min(at, 508);
        int skipped = at - fitting;
        for (int i = 0; i < skipped + bytes.length; i += 4) {
            int v = 0;
            for (int j = 3; j >= 0; j--) {
                int k = i + j - skipped;
                v = v << 8 | (k >= 0 && k < bytes.length ? bytes[k] & 255 : 0);
            }
            x.code(fitting + i, v);
        }
    }
}
