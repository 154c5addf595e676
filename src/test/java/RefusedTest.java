/** "A call that throws changes nothing": whether the machine goes on or has stopped, at both ends of what is there. */
public final class RefusedTest {
    private static final int MIN = Integer.MIN_VALUE;
    private static final int MAX = Integer.MAX_VALUE;
    private static final Check CHECK = new Check();

    public static void main(String[] args) {
        // NOP, HALT, another opcode, POP below word 0: the machine goes on, has halted, trapped, faulted.
        int[] opcodes = {0, 255, 1, 87};
        for (int state = 0; state < opcodes.length; state++) {
            // A machine for each: more calls than 512 would be too many for one.
            Bench b = machine(opcodes[state]);
            wordsThatAreNotThere(b);
            goesOnAsIfNothingHadBeen(b, state);
            b = machine(opcodes[state]);
            bytesThatAreNotAllThere(b);
            goesOnAsIfNothingHadBeen(b, state);
            b = machine(opcodes[state]);
            wrongCounts(b, state);
            goesOnAsIfNothingHadBeen(b, state);
            b = machine(opcodes[state]);
            otherRegisters(b);
            goesOnAsIfNothingHadBeen(b, state);
            b = machine(opcodes[state]);
            wordsToLookAt(b);
            goesOnAsIfNothingHadBeen(b, state);
        }
        CHECK.done();
    }

    /** A machine that has done a NOP and then the opcode, with words and code at all ends. */
    private static Bench machine(int opcode) {
        Bench b = new Bench().words(0, 5, 1, 6, 254, 7, 255, 8).code(0, 16, 16, 16, 16).code(508, 16, 16, 16, 16)
            .code(100, 0, opcode, 0, 0).boot(100, 0, 3, 2);
        b.x.run(2);
        return b;
    }

    private static void wordsThatAreNotThere(Bench b) {
        for (int a : new int[] {-1, 256, MIN, MAX}) {
            CHECK.refuses("word(" + a + ", 77)", b.x, IndexOutOfBoundsException.class, () -> b.x.word(a, 77));
        }
    }

    private static void bytesThatAreNotAllThere(Bench b) {
        for (int a : new int[] {-4, -3, -2, -1, 509, 510, 511, 512, MIN, MAX, MAX - 1, MAX - 2, MAX - 3}) {
            CHECK.refuses("code(" + a + ", -1)", b.x, IndexOutOfBoundsException.class, () -> b.x.code(a, -1));
        }
    }

    private static void wrongCounts(Bench b, int state) {
        for (int n : new int[] {-1, 1001, MIN, MAX}) {
            CHECK.refuses("run(" + n + ")", b.x, IllegalArgumentException.class, () -> b.x.run(n));
        }
        if (state != 0) {
            for (int n : new int[] {0, 1, 1000}) {
                CHECK.refuses("run(" + n + ") when stopped", b.x, IllegalStateException.class, () -> b.x.run(n));
            }
        }
    }

    private static void otherRegisters(Bench b) {
        for (int what : new int[] {-1, 8, MIN, MAX}) {
            CHECK.refuses("register(" + what + ")", b.x, IllegalArgumentException.class, () -> b.x.register(what));
        }
    }

    private static void wordsToLookAt(Bench b) {
        for (int a : new int[] {-1, 256, MIN, MAX}) {
            CHECK.refuses("look(" + a + ")", b.x, IndexOutOfBoundsException.class, () -> b.x.look(a));
        }
    }

    private static void goesOnAsIfNothingHadBeen(Bench b, int state) {
        int[][] due = {{102, 0, 3, 2, 5, 0, 4, 2}, {101, 0, 3, 2, 5, 1, 4, 2}, {101, 0, 3, 2, 5, 2, 2, 1},
            {101, 0, 3, 2, 5, 3, 2, 1}};
        CHECK.registers("refused calls", b.x, due[state]);
        b.checkWords(CHECK, "refused calls");
        if (state == 0) {
            b.does(CHECK, "NOP behind refused calls", 103, 0, 3, 2, 5, 0, 6, 3);
        }
        // Each byte of the first and the last four is a PUSH's opcode or its operand.
        for (int pc : new int[] {0, 1, 2, 508, 509, 510}) {
            b.boot(pc, 50, 3, 2).expect(51, 16)
                .does(CHECK, "PUSH at " + pc + " behind refused calls", pc + 2, 51, 3, 2, 16, 0, 4, 1);
        }
    }
}
