import java.util.Arrays;
import java.util.function.IntFunction;

/**
 * "A word at a place or a byte at a place is there if the place is 0 .. 255, or 0 .. 511": for each instruction
 * the lowest and the highest register with which every place it needs is there, and that it faults beyond.
 */
public final class PlacesTest {
    private static final int MIN = Integer.MIN_VALUE;
    private static final int MAX = Integer.MAX_VALUE;
    private static final int FAULTED = 3;
    private static final Check CHECK = new Check();

    public static void main(String[] args) {
        stackOfWhatTakesFromIt();
        stackOfWhatPutsOnIt();
        stackOfSwap();
        stackOfIfs();
        stackOfCall();
        stackThatNobodyLooksAt();
        localWords();
        constants();
        firstByteOfAMethod();
        linkOfAReturn();
        opcodes();
        operandBytes();
        CHECK.done();
    }

    private static Bench bench(int... bytes) {
        return new Bench().words(0, 1000, 1, -1001, 13, 60, 20, 28, 28, 5, 29, 290, 30, 300, 253, -7, 254, 9, 255, 8)
            .code(100, bytes);
    }

    /** The machine is booted at an instruction that has all it needs with lowest .. highest, and nothing beyond. */
    private static void isDoneFrom(String what, int lowest, int highest, IntFunction<Bench> bootedWith) {
        int[] tried = {lowest, lowest + 1, highest - 1, highest, lowest - 1, highest + 1, lowest - 2, highest + 2, MIN,
            MIN + 1, MAX, MAX - 1, -65536, -65535, -32768, 65535, 65536, 32768, -256, -1, 0, 128, 256, 512};
        for (int i : tried) {
            Bench b = bootedWith.apply(i);
            if (i >= lowest && i <= highest) {
                b.doesAsTold(CHECK, what + " " + i);
            } else {
                b.stops(CHECK, what + " " + i, FAULTED);
            }
        }
    }

    private static void stackGoesFrom(String what, int lowest, int highest, int... bytes) {
        isDoneFrom(what + " with SP", lowest, highest, sp -> bench(bytes).boot(100, sp, 20, 10));
    }

    private static void stackOfWhatTakesFromIt() {
        stackGoesFrom("ADD", 1, 256, 96);
        stackGoesFrom("SUB", 1, 256, 100);
        stackGoesFrom("AND", 1, 256, 126);
        stackGoesFrom("OR", 1, 256, 128);
        stackGoesFrom("POP", 1, 256, 87);
        stackGoesFrom("STORE", 1, 256, 54, 2);
        stackGoesFrom("WIDE STORE", 1, 256, 196, 54, 0, 2);
    }

    private static void stackOfWhatPutsOnIt() {
        stackGoesFrom("DUP", -1, 254, 89);
        stackGoesFrom("PUSH", -1, 254, 16, 5);
        stackGoesFrom("LOAD", -1, 254, 21, 8);
        stackGoesFrom("WIDE LOAD", -1, 254, 196, 21, 0, 8);
        stackGoesFrom("CONSTANT", -1, 254, 19, 0, 3);
    }

    private static void stackOfSwap() {
        stackGoesFrom("SWAP", 1, 255, 95);
    }

    private static void stackOfIfs() {
        stackGoesFrom("IF BELOW", 1, 256, 155, 0, 9);
        stackGoesFrom("IF 0", 1, 256, 153, 0, 9);
        stackGoesFrom("IF LIKE", 2, 256, 159, 0, 9);
    }

    private static void stackOfCall() {
        callGoesFrom("0 0", -1, 253, 0, 0);
        callGoesFrom("1 0", 0, 253, 1, 0);
        callGoesFrom("0 1", -1, 252, 0, 1);
        callGoesFrom("3 40", 2, 213, 3, 40);
        callGoesFrom("254 0", 253, 253, 254, 0);
        callGoesFrom("0 254", -1, -1, 0, 254);
        callNeverGoes("255 0", 0, 255, 0, 0);
        callNeverGoes("0 255", 0, 0, 0, 255);
        callNeverGoes("256 0", 1, 0, 0, 0);
        callNeverGoes("0 256", 0, 0, 1, 0);
        callNeverGoes("65535 0", 255, 255, 0, 0);
        callNeverGoes("0 65535", 0, 0, 255, 255);
    }

    private static void callGoesFrom(String counts, int lowest, int highest, int n, int k) {
        isDoneFrom("CALL with counts " + counts + " and SP", lowest, highest,
            sp -> bench(182, 0, 3).code(60, 0, n, 0, k).boot(100, sp, 20, 10));
    }

    private static void callNeverGoes(String counts, int... method) {
        for (int sp = -70000; sp <= 70000; sp += sp >= -3 && sp < 260 ? 1 : 89) {
            bench(182, 0, 3).code(60, method).boot(100, sp, 20, 10)
                .stops(CHECK, "CALL with counts " + counts + " and SP " + sp, FAULTED);
        }
    }

    private static void stackThatNobodyLooksAt() {
        stackGoesFrom("NOP", MIN, MAX, 0);
        stackGoesFrom("INCREASE", MIN, MAX, 132, 0, 1);
        stackGoesFrom("GOTO", MIN, MAX, 167, 0, 9);
        stackGoesFrom("RETURN", MIN, MAX, 172);
        stackGoesFrom("HALT", MIN, MAX, 255);
    }

    private static void localsGoFrom(String what, int lowest, int highest, int... bytes) {
        isDoneFrom(what + " with LV", lowest, highest, lv -> bench(bytes).boot(100, 30, lv, 10));
    }

    private static void localWords() {
        localsGoFrom("LOAD 0", 0, 255, 21, 0);
        localsGoFrom("LOAD 255", -255, 0, 21, 255);
        localsGoFrom("STORE 0", 0, 255, 54, 0);
        localsGoFrom("STORE 255", -255, 0, 54, 255);
        localsGoFrom("INCREASE 0", 0, 255, 132, 0, 3);
        localsGoFrom("INCREASE 255", -255, 0, 132, 255, 3);
        localsGoFrom("WIDE LOAD 0", 0, 255, 196, 21, 0, 0);
        localsGoFrom("WIDE LOAD 65535", -65535, -65280, 196, 21, 255, 255);
        localsGoFrom("WIDE STORE 0", 0, 255, 196, 54, 0, 0);
        localsGoFrom("WIDE STORE 65535", -65535, -65280, 196, 54, 255, 255);
        localsGoFrom("CALL", MIN, MAX, 182, 0, 3);
        // Every word tells a link that is there, so that LV alone decides.
        isDoneFrom("RETURN with LV", 0, 255, lv -> returning(lv).boot(100, 30, lv, 10));
    }

    private static Bench returning(int lv) {
        Bench b = new Bench().words(30, 300, 40, 411, 41, 422).code(100, 172);
        return lv >= 0 && lv <= 255 ? b.words(lv, 40) : b;
    }

    private static void constants() {
        constantsGoFrom("0", 0, 255, 0, 0);
        constantsGoFrom("65535", -65535, -65280, 255, 255);
    }

    private static void constantsGoFrom(String operand, int lowest, int highest, int high, int low) {
        isDoneFrom("CONSTANT " + operand + " with CPP", lowest, highest,
            cpp -> bench(19, high, low).boot(100, 30, 20, cpp));
        // All words but the frame's are 0: a method at byte 0, without arguments and room.
        isDoneFrom("CALL " + operand + " with CPP", lowest, highest,
            cpp -> new Bench().code(100, 182, high, low).boot(100, 30, 20, cpp));
    }

    private static void firstByteOfAMethod() {
        isDoneFrom("CALL of byte", 0, 508, m -> bench().words(13, m).code(200, 182, 0, 3).boot(200, -1, 20, 10));
    }

    private static void linkOfAReturn() {
        isDoneFrom("RETURN with link", 0, 254, b -> bench(172).words(20, b).boot(100, 30, 20, 10));
    }

    private static void opcodes() {
        isDoneFrom("NOP at", 0, 511, pc -> new Bench().boot(pc, 30, 20, 10));
        int[] alone = {96, 100, 126, 128, 89, 87, 95, 172, 255};
        for (int opcode : alone) {
            isDoneAt(511, opcode);
            isDoneAt(0, opcode);
        }
    }

    private static void operandBytes() {
        int[][] instructions = {{16, 5}, {21, 0}, {54, 0}, {196, 21, 0, 0}, {196, 54, 0, 0}, {19, 0, 0}, {132, 0, 1},
            {167, 0, 9}, {182, 0, 3}};
        for (int[] bytes : instructions) {
            isDoneAt(0, bytes);
            isDoneAt(512 - bytes.length, bytes);
            for (int length = 1; length < bytes.length; length++) {
                int at = 512 - length;
                bench().code(at, Arrays.copyOf(bytes, length)).boot(at, 30, 20, 10)
                    .stops(CHECK, bytes[0] + " of " + bytes.length + " bytes at " + at, FAULTED);
            }
        }
    }

    private static void isDoneAt(int at, int... bytes) {
        bench().code(at, bytes).boot(at, 30, 20, 10).doesAsTold(CHECK, bytes[0] + " at " + at);
    }
}
