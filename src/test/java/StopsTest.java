/** What traps and what faults: nothing of it is done, no cycles are counted, PC stays, the machine stops. */
public final class StopsTest {
    private static final int MIN = Integer.MIN_VALUE;
    private static final int MAX = Integer.MAX_VALUE;
    private static final int TRAPPED = 2;
    private static final int FAULTED = 3;
    private static final Check CHECK = new Check();

    public static void main(String[] args) {
        otherOpcodesTrap();
        wideWithAnotherByteTraps();
        placesOfCodeThatAreNotThereFault();
        missingOperandsFault();
        stackThatIsNotThereFaults();
        operandWordsThatAreNotThereFault();
        callsFault();
        returnsFault();
        countsStayAfterAStop();
        CHECK.done();
    }

    private static Bench bench(int at, int... bytes) {
        return new Bench().words(0, 1000, 1, 1001, 30, 300, 29, 290, 20, 28, 28, 5, 254, 9, 255, 8).code(at, bytes);
    }

    private static void stops(Bench b, String what, int due, int pc, int sp, int lv, int cpp) {
        b.boot(pc, sp, lv, cpp).stops(CHECK, what, due);
    }

    private static boolean isOpcode(int opcode) {
        for (int known : new int[] {0, 96, 100, 126, 128, 89, 87, 95, 16, 21, 54, 196, 19, 132, 167, 155, 153, 159,
            182, 172, 255}) {
            if (known == opcode) {
                return true;
            }
        }
        return false;
    }

    private static void otherOpcodesTrap() {
        for (int opcode = 0; opcode < 256; opcode++) {
            if (!isOpcode(opcode)) {
                stops(bench(100, opcode), "opcode " + opcode, TRAPPED, 100, 30, 20, 10);
                stops(bench(511, opcode), "opcode " + opcode + " at 511", TRAPPED, 511, -9, -9, -9);
            }
        }
    }

    private static void wideWithAnotherByteTraps() {
        for (int behind = 0; behind < 256; behind++) {
            if (behind != 21 && behind != 54) {
                stops(bench(100, 196, behind, 0, 2), "WIDE " + behind, TRAPPED, 100, 30, 20, 10);
                stops(bench(510, 196, behind), "WIDE " + behind + " at 510", TRAPPED, 510, 30, 20, 10);
            }
        }
        stops(bench(511, 196), "WIDE at 511", FAULTED, 511, 30, 20, 10);
    }

    private static void placesOfCodeThatAreNotThereFault() {
        for (int pc : new int[] {-1, 512, 513, 1024, -512, MIN, MAX}) {
            stops(bench(0, 0), "PC " + pc, FAULTED, pc, 30, 20, 10);
        }
    }

    private static void missingOperandsFault() {
        int[] lengthTwo = {16, 21, 54};
        int[] lengthThree = {19, 132, 167, 182};
        for (int opcode : lengthTwo) {
            stops(bench(511, opcode), opcode + " at 511", FAULTED, 511, 30, 0, 0);
        }
        for (int opcode : lengthThree) {
            stops(bench(511, opcode), opcode + " at 511", FAULTED, 511, 30, 0, 0);
            stops(bench(510, opcode), opcode + " at 510", FAULTED, 510, 30, 0, 0);
        }
        for (int opcode : new int[] {21, 54}) {
            stops(bench(510, 196, opcode), "WIDE " + opcode + " at 510", FAULTED, 510, 30, 0, 0);
            stops(bench(509, 196, opcode, 0), "WIDE " + opcode + " at 509", FAULTED, 509, 30, 0, 0);
        }
        jumpsWithoutOperandsFault();
    }

    private static void jumpsWithoutOperandsFault() {
        for (int pc = 510; pc < 512; pc++) {
            stops(bench(pc, 155).words(30, -1), "IF BELOW that jumps at " + pc, FAULTED, pc, 30, 0, 0);
            stops(bench(pc, 153).words(30, 0), "IF 0 that jumps at " + pc, FAULTED, pc, 30, 0, 0);
            stops(bench(pc, 159).words(30, 290), "IF LIKE that jumps at " + pc, FAULTED, pc, 30, 0, 0);
        }
    }

    private static void stackThatIsNotThereFaults() {
        int[] off = {-2, 258, MIN, MAX, -300};
        int[] takers = {96, 100, 126, 128, 87, 95, 54, 155, 153, 159};
        for (int opcode : takers) {
            for (int sp : off) {
                stops(bench(100, opcode, 0, 5), opcode + " with SP " + sp, FAULTED, 100, sp, 20, 10);
            }
            stops(bench(100, opcode, 0, 5), opcode + " with SP 0", FAULTED, 100, 0, 20, 10);
            stops(bench(100, opcode, 0, 5), opcode + " with SP 257", FAULTED, 100, 257, 20, 10);
        }
        int[] pushers = {89, 16, 21, 19};
        for (int opcode : pushers) {
            for (int sp : off) {
                stops(bench(100, opcode, 0, 5), opcode + " with SP " + sp, FAULTED, 100, sp, 20, 10);
            }
            stops(bench(100, opcode, 0, 5), opcode + " with SP 255", FAULTED, 100, 255, 20, 10);
            stops(bench(100, opcode, 0, 5), opcode + " with SP 256", FAULTED, 100, 256, 20, 10);
        }
        stops(bench(100, 95), "SWAP with SP 256", FAULTED, 100, 256, 20, 10);
        stops(bench(100, 159, 0, 5), "IF LIKE with SP 1", FAULTED, 100, 1, 20, 10);
        stops(bench(100, 196, 21, 0, 0), "WIDE LOAD with SP 255", FAULTED, 100, 255, 20, 10);
        stops(bench(100, 196, 54, 0, 0), "WIDE STORE with SP 0", FAULTED, 100, 0, 20, 10);
    }

    private static void operandWordsThatAreNotThereFault() {
        for (int opcode : new int[] {21, 54, 132}) {
            for (int lv : new int[] {-3, 254, MIN, MAX, MAX - 1}) {
                stops(bench(100, opcode, 2, 1), opcode + " 2 with LV " + lv, FAULTED, 100, 30, lv, 10);
            }
            stops(bench(100, opcode, 255, 1), opcode + " 255 with LV 1", FAULTED, 100, 30, 1, 10);
        }
        for (int opcode : new int[] {21, 54}) {
            stops(bench(100, 196, opcode, 1, 0), "WIDE " + opcode + " 256", FAULTED, 100, 30, 0, 0);
            stops(bench(100, 196, opcode, 255, 255), "WIDE " + opcode + " 65535", FAULTED, 100, 30, 20, 0);
            stops(bench(100, 196, opcode, 0, 0), "WIDE " + opcode + " 0", FAULTED, 100, 30, -1, 0);
        }
        for (int cpp : new int[] {-1, 256, MIN, MAX}) {
            stops(bench(100, 19, 0, 0), "CONSTANT 0 with CPP " + cpp, FAULTED, 100, 30, 20, cpp);
            stops(bench(100, 182, 0, 0), "CALL 0 with CPP " + cpp, FAULTED, 100, 30, 20, cpp);
        }
        stops(bench(100, 19, 255, 255), "CONSTANT 65535", FAULTED, 100, 30, 20, 20);
        stops(bench(100, 182, 255, 255), "CALL 65535", FAULTED, 100, 30, 20, 20);
    }

    private static void callsFault() {
        for (int method : new int[] {-1, -4, 509, 510, 511, 512, MIN, MAX, MAX - 2}) {
            stops(bench(100, 182, 0, 3).words(13, method), "CALL of byte " + method, FAULTED, 100, 30, 20, 10);
        }
        callFaults("frame below word 0", 30, 0, 32, 0, 0);
        callFaults("frame far below word 0", 30, 1, 1, 0, 0);
        callFaults("link behind the last word", 30, 0, 1, 0, 225);
        callFaults("second word of the link behind the last word", 30, 0, 1, 0, 224);
        callFaults("link far behind the last word", 30, 0, 1, 1, 0);
        callFaults("n without sign", 30, 255, 254, 0, 60);
        callFaults("k without sign", 30, 0, 1, 255, 254);
        callFaults("SP 255", 255, 0, 1, 0, 0);
        callFaults("SP 254", 254, 0, 1, 0, 0);
        callFaults("SP far off", MAX, 0, 1, 0, 0);
        callFaults("SP far below", MIN, 255, 255, 255, 255);
        callFaults("frame there, link not", 300, 0, 200, 0, 0);
        callFaults("link there, frame not", -20, 0, 0, 0, 60);
    }

    private static void callFaults(String what, int sp, int... method) {
        stops(bench(100, 182, 0, 3).words(13, 60).code(60, method), "CALL with " + what, FAULTED, 100, sp, 20, 10);
    }

    private static void returnsFault() {
        for (int lv : new int[] {-1, 256, MIN, MAX}) {
            stops(bench(100, 172), "RETURN with LV " + lv, FAULTED, 100, 30, lv, 10);
        }
        for (int link : new int[] {-1, -2, 255, 256, MIN, MAX}) {
            stops(bench(100, 172).words(20, link), "RETURN with link " + link, FAULTED, 100, 30, 20, 10);
        }
    }

    private static void countsStayAfterAStop() {
        Bench b = bench(0, 16, 5, 89, 1, 16, 6, 172).boot(0, 30, 20, 10);
        CHECK.same("run into a trap", b.x.run(9), 2);
        CHECK.registers("two instructions and a trap", b.x, 3, 32, 20, 10, 5, 2, 7, 2);
        b.expect(31, 5, 32, 5).checkWords(CHECK, "two instructions and a trap");
        b.boot(4, 30, -1, 10);
        CHECK.same("run into a fault", b.x.run(9), 1);
        CHECK.registers("an instruction and a fault", b.x, 6, 31, -1, 10, 6, 3, 4, 1);
        b.expect(31, 6).checkWords(CHECK, "an instruction and a fault");
    }
}
