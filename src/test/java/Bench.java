/** A computer together with a reference that holds what is due, so that a stray write shows in the sum. */
final class Bench {
    /** What takes four bytes of code at a place. */
    private interface Code {
        void code(int a, int v);
    }

    final StackComputer x = new StackComputer();
    private final Reference due = new Reference();

    Bench words(int... placesAndValues) {
        for (int i = 0; i < placesAndValues.length; i += 2) {
            x.word(placesAndValues[i], placesAndValues[i + 1]);
        }
        return expect(placesAndValues);
    }

    Bench code(int at, int... bytes) {
        load(x::code, at, bytes);
        load(due::code, at, bytes);
        return this;
    }

    Bench boot(int pc, int sp, int lv, int cpp) {
        x.boot(pc, sp, lv, cpp);
        due.boot(pc, sp, lv, cpp);
        return this;
    }

    /** From now on the words at these places should have these values. */
    Bench expect(int... placesAndValues) {
        for (int i = 0; i < placesAndValues.length; i += 2) {
            due.words[placesAndValues[i]] = placesAndValues[i + 1];
        }
        return this;
    }

    /** The next instruction is done, and leaves these registers and the words that are expected. */
    void does(Check check, String what, int... dueRegisters) {
        check.same("run of " + what, x.run(1), 1);
        check.registers(what, x, dueRegisters);
        checkWords(check, what);
    }

    /** The next instruction is done, and leaves what the reference leaves. */
    void doesAsTold(Check check, String what) {
        check.same("reference's run of " + what, due.run(1), 1);
        check.same("run of " + what, x.run(1), 1);
        check.same("registers after " + what, Check.registers(x), due.registers());
        checkWords(check, what);
    }

    /** The next instruction traps (2) or faults (3) and leaves everything else as it was. */
    void stops(Check check, String what, int dueStop) {
        int[] registers = Check.allRegisters(x);
        registers[5] = dueStop;
        check.same("run of " + what, x.run(7), 0);
        check.registers(what, x, registers);
        checkWords(check, what);
    }

    void checkWords(Check check, String what) {
        for (int a = 0; a < due.words.length; a++) {
            if (due.words[a] != 0) {
                check.same("word " + a + " after " + what, x.look(a), due.words[a]);
            }
        }
        check.same("sum after " + what, x.sum(), due.sum());
    }

    static void load(StackComputer x, int at, int... bytes) {
        load(x::code, at, bytes);
    }

    /** Puts bytes at a place; up to three bytes behind them become 0, if the code goes on so far. */
    private static void load(Code to, int at, int... bytes) {
        int fitting = Math.min(at, 508);
        int skipped = at - fitting;
        for (int i = 0; i < skipped + bytes.length; i += 4) {
            int v = 0;
            for (int j = 3; j >= 0; j--) {
                int k = i + j - skipped;
                v = v << 8 | (k >= 0 && k < bytes.length ? bytes[k] & 255 : 0);
            }
            to.code(fitting + i, v);
        }
    }
}
