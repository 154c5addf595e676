/**
 * "Nothing of it is done, no cycles are counted, PC stays, and the machine stops. (Bytes are read one by one as they
 * come; a byte that isn't there faults ahead of what would trap; IF reads its operands just if it jumps.)"
 */
public final class OrderTest {
    private static final int TRAPPED = 2;
    private static final int FAULTED = 3;
    private static final int[] IFS = {155, 153, 159};
    private static final Check CHECK = new Check();

    public static void main(String[] args) {
        missingByteFaultsAheadOfATrap();
        bytesAreReadAsTheyCome();
        missingByteFaultsWithAMissingWord();
        ifThatJumpsReadsItsOperands();
        ifThatDoesNotJumpReadsNoOperands();
        ifNeedsItsWordsWithoutAJump();
        firstStepsOfAFaultAreNotDone();
        whatWasDoneAheadOfAStopStays();
        stoppedMachineStaysStopped();
        CHECK.done();
    }

    private static Bench bench(int at, int... bytes) {
        return new Bench().words(13, 60, 20, 28, 28, 5, 29, 290, 30, 300, 254, 9, 255, 8).code(at, bytes);
    }

    private static void missingByteFaultsAheadOfATrap() {
        bench(511, 196).boot(511, 30, 20, 10).stops(CHECK, "WIDE as the last byte", FAULTED);
        bench(0, 1).boot(-1, 30, 20, 10).stops(CHECK, "PC ahead of an opcode that traps", FAULTED);
        bench(511, 1).boot(512, 30, 20, 10).stops(CHECK, "PC behind an opcode that traps", FAULTED);
    }

    private static void bytesAreReadAsTheyCome() {
        // What traps is told by the bytes that are there: nothing behind them is read.
        bench(511, 1).boot(511, 30, 20, 10).stops(CHECK, "an opcode that traps as the last byte", TRAPPED);
        bench(510, 196, 1).boot(510, 30, 20, 10).stops(CHECK, "WIDE with another byte as the last one", TRAPPED);
        bench(509, 196, 1, 0).boot(509, 30, 20, 10).stops(CHECK, "WIDE with another byte, the last but one", TRAPPED);
        bench(510, 196, 21).boot(510, 30, 20, 10).stops(CHECK, "WIDE LOAD without operands", FAULTED);
        bench(510, 196, 54).boot(510, 30, 20, 10).stops(CHECK, "WIDE STORE without operands", FAULTED);
        bench(509, 196, 21, 0).boot(509, 30, 20, 10).stops(CHECK, "WIDE LOAD with half an operand", FAULTED);
        bench(509, 196, 54, 0).boot(509, 30, 20, 10).stops(CHECK, "WIDE STORE with half an operand", FAULTED);
    }

    private static void missingByteFaultsWithAMissingWord() {
        for (int opcode : new int[] {16, 21, 54, 19, 132, 182}) {
            bench(511, opcode).boot(511, -9, -9, -9)
                .stops(CHECK, opcode + " without operands, stack, locals and constants", FAULTED);
        }
        // An opcode that traps looks at no word, and so does WIDE with another byte.
        bench(100, 1).boot(100, -9, -9, -9).stops(CHECK, "opcode 1 without stack", TRAPPED);
        bench(100, 196, 1).boot(100, -9, -9, -9).stops(CHECK, "WIDE 1 without stack", TRAPPED);
    }

    /** An IF at a place, with 0 for those of its operands that are there. */
    private static Bench ifAt(int opcode, int at, int top) {
        return new Bench().words(28, 5, 29, 290, 30, top).code(at, opcode).boot(at, 30, 20, 10);
    }

    private static int topThatJumps(int opcode) {
        return opcode == 155 ? -1 : opcode == 153 ? 0 : 290;
    }

    private static void ifThatJumpsReadsItsOperands() {
        for (int opcode : IFS) {
            ifAt(opcode, 511, topThatJumps(opcode)).stops(CHECK, opcode + " that jumps, at 511", FAULTED);
            ifAt(opcode, 510, topThatJumps(opcode)).stops(CHECK, opcode + " that jumps, at 510", FAULTED);
            boolean like = opcode == 159;
            ifAt(opcode, 509, topThatJumps(opcode)).does(CHECK, opcode + " that jumps, at 509",
                509, like ? 28 : 29, 20, 10, like ? 5 : 290, 0, like ? 13 : 11, 1);
        }
    }

    private static void ifThatDoesNotJumpReadsNoOperands() {
        for (int opcode : IFS) {
            for (int at = 508; at < 512; at++) {
                boolean like = opcode == 159;
                ifAt(opcode, at, 1).does(CHECK, opcode + " that doesn't jump, at " + at,
                    at + 3, like ? 28 : 29, 20, 10, like ? 5 : 290, 0, like ? 10 : 8, 1);
            }
        }
    }

    private static void ifNeedsItsWordsWithoutAJump() {
        Bench below = new Bench().words(0, 1).code(100, 155, 0, 9).boot(100, 0, 20, 10);
        below.stops(CHECK, "IF BELOW that wouldn't jump, with SP 0", FAULTED);
        Bench zero = new Bench().words(0, 1).code(100, 153, 0, 9).boot(100, 0, 20, 10);
        zero.stops(CHECK, "IF 0 that wouldn't jump, with SP 0", FAULTED);
        Bench like = new Bench().words(0, 1, 1, 2).code(100, 159, 0, 9).boot(100, 1, 20, 10);
        like.stops(CHECK, "IF LIKE that wouldn't jump, with SP 1", FAULTED);
    }

    /** Each of these finds some of its places there, and by the document's order would write ahead of the fault. */
    private static void firstStepsOfAFaultAreNotDone() {
        bench(100, 54, 8).words(0, 77).boot(100, 0, 20, 10).stops(CHECK, "STORE with SP 0", FAULTED);
        bench(100, 196, 54, 0, 8).words(0, 77).boot(100, 0, 20, 10).stops(CHECK, "WIDE STORE with SP 0", FAULTED);
        bench(100, 21, 8).boot(100, 255, 20, 10).stops(CHECK, "LOAD with SP 255", FAULTED);
        bench(100, 19, 0, 3).boot(100, 255, 20, 10).stops(CHECK, "CONSTANT with SP 255", FAULTED);
        bench(100, 16, 4).boot(100, 255, 20, 10).stops(CHECK, "PUSH with SP 255", FAULTED);
        bench(100, 95).boot(100, 256, 20, 10).stops(CHECK, "SWAP with SP 256", FAULTED);
        bench(100, 159, 0, 9).boot(100, 257, 20, 10).stops(CHECK, "IF LIKE with SP 257", FAULTED);
        call("CALL whose link isn't there", 30, 0, 1, 0, 225);
        call("CALL whose link is there by half", 30, 0, 1, 0, 224);
        call("CALL whose frame isn't there", 30, 0, 32, 0, 0);
        bench(100, 172).words(20, 255).boot(100, 30, 20, 10).stops(CHECK, "RETURN with link 255", FAULTED);
        bench(100, 172).words(20, -1).boot(100, 30, 20, 10).stops(CHECK, "RETURN with link -1", FAULTED);
    }

    private static void call(String what, int sp, int... method) {
        bench(100, 182, 0, 3).code(60, method).boot(100, sp, 20, 10).stops(CHECK, what, FAULTED);
    }

    private static void whatWasDoneAheadOfAStopStays() {
        Bench b = bench(100, 16, 7, 89, 1).boot(100, 30, 20, 10).expect(31, 7, 32, 7);
        CHECK.same("run into a trap", b.x.run(1000), 2);
        CHECK.registers("PUSH, DUP and a trap", b.x, 103, 32, 20, 10, 7, TRAPPED, 7, 2);
        b.checkWords(CHECK, "PUSH, DUP and a trap");
        b = bench(510, 16, 7).boot(510, 30, 20, 10).expect(31, 7);
        CHECK.same("run into the end of the code", b.x.run(1000), 1);
        CHECK.registers("PUSH and the end of the code", b.x, 512, 31, 20, 10, 7, FAULTED, 4, 1);
        b.checkWords(CHECK, "PUSH and the end of the code");
    }

    private static void stoppedMachineStaysStopped() {
        int[][] stops = {{255, 1}, {1, TRAPPED}, {172, FAULTED}};
        for (int[] stop : stops) {
            Bench b = bench(100, stop[0]).boot(100, 30, -1, 10);
            b.x.run(1);
            // Neither a mended instruction nor a mended word lets it go on: boot alone does.
            b.code(100, 0).words(30, 4);
            CHECK.same("stop " + stop[1] + " behind code and word", b.x.register(5), stop[1]);
            CHECK.refuses("run behind stop " + stop[1], b.x, IllegalStateException.class, () -> b.x.run(1));
            b.boot(100, 30, 20, 10).does(CHECK, "NOP behind stop " + stop[1], 101, 30, 20, 10, 4, 0, 2, 1);
        }
    }
}
