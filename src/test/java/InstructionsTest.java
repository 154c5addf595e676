/** What each instruction does, by the document's terms, where it neither traps nor faults. */
public final class InstructionsTest {
    private static final int MIN = Integer.MIN_VALUE;
    private static final int MAX = Integer.MAX_VALUE;
    private static final Check CHECK = new Check();

    public static void main(String[] args) {
        nop();
        arithmetic();
        dup();
        pop();
        swap();
        push();
        load();
        store();
        wide();
        constant();
        increase();
        jump();
        ifBelowAndIfZero();
        ifLike();
        call();
        callsThatOverlap();
        leave();
        halt();
        operandsUpToTheLastByte();
        CHECK.done();
    }

    /** One instruction at byte 100, with LV 20 and CPP 10, on words that tell the places apart. */
    private static Bench bench(int sp, int... bytes) {
        return new Bench().words(18, 180, 19, 190, 20, 200, 21, 210, 22, 220, 28, 280, 29, 290, 30, 300, 31, 310)
            .code(100, bytes).boot(100, sp, 20, 10);
    }

    private static void does(Bench b, String what, int... dueRegisters) {
        b.does(CHECK, what, dueRegisters);
    }

    private static void nop() {
        does(bench(30, 0), "NOP", 101, 30, 20, 10, 300, 0, 2, 1);
        does(bench(-7, 0), "NOP with SP off", 101, -7, 20, 10, 0, 0, 2, 1);
    }

    private static void arithmetic() {
        does(bench(30, 96).expect(29, 590), "ADD", 101, 29, 20, 10, 590, 0, 4, 1);
        does(bench(30, 100).expect(29, -10), "SUB", 101, 29, 20, 10, -10, 0, 4, 1);
        does(bench(30, 126).expect(29, 290 & 300), "AND", 101, 29, 20, 10, 290 & 300, 0, 4, 1);
        does(bench(30, 128).expect(29, 290 | 300), "OR", 101, 29, 20, 10, 290 | 300, 0, 4, 1);
        does(bench(30, 96).words(29, MAX, 30, 2).boot(100, 30, 0, 0).expect(29, MIN + 1),
            "ADD that wraps", 101, 29, 0, 0, MIN + 1, 0, 4, 1);
        does(bench(30, 100).words(29, MIN, 30, 1).boot(100, 30, 0, 0).expect(29, MAX),
            "SUB that wraps", 101, 29, 0, 0, MAX, 0, 4, 1);
        does(bench(30, 126).words(29, -16, 30, MIN + 31).boot(100, 30, 0, 0).expect(29, MIN + 16),
            "AND below 0", 101, 29, 0, 0, MIN + 16, 0, 4, 1);
        does(bench(30, 128).words(29, -16, 30, 5).boot(100, 30, 0, 0).expect(29, -11),
            "OR below 0", 101, 29, 0, 0, -11, 0, 4, 1);
        // The word at SP itself is not read: TOP stands for it.
        does(bench(30, 96).words(30, 7).expect(29, 590), "ADD with TOP not [SP]", 101, 29, 20, 10, 590, 0, 4, 1);
        does(new Bench().words(255, 8).code(100, 100).boot(100, 256, 0, 0), "SUB with SP 256",
            101, 255, 0, 0, 8, 0, 4, 1);
        does(new Bench().words(0, 8, 1, 3).code(100, 100).boot(100, 1, 0, 0).expect(0, 5), "SUB with SP 1",
            101, 0, 0, 0, 5, 0, 4, 1);
    }

    private static void dup() {
        does(bench(30, 89).expect(31, 300), "DUP", 101, 31, 20, 10, 300, 0, 3, 1);
        does(bench(30, 89).words(30, 7).expect(31, 300), "DUP with TOP not [SP]", 101, 31, 20, 10, 300, 0, 3, 1);
        does(bench(254, 89).words(255, 9).expect(255, 0), "DUP to 255", 101, 255, 20, 10, 0, 0, 3, 1);
        does(bench(-1, 89).words(0, 9).expect(0, 0), "DUP to 0", 101, 0, 20, 10, 0, 0, 3, 1);
    }

    private static void pop() {
        does(bench(30, 87), "POP", 101, 29, 20, 10, 290, 0, 4, 1);
        does(bench(256, 87).words(255, 9), "POP to 255", 101, 255, 20, 10, 9, 0, 4, 1);
        does(bench(1, 87).words(0, 9), "POP to 0", 101, 0, 20, 10, 9, 0, 4, 1);
    }

    private static void swap() {
        does(bench(30, 95).expect(30, 290, 29, 300), "SWAP", 101, 30, 20, 10, 290, 0, 7, 1);
        does(bench(30, 95).words(30, 7).expect(30, 290, 29, 300), "SWAP with TOP not [SP]",
            101, 30, 20, 10, 290, 0, 7, 1);
        does(bench(255, 95).words(254, 9).expect(255, 9, 254, 0), "SWAP at 255", 101, 255, 20, 10, 9, 0, 7, 1);
        does(bench(1, 95).words(0, 9).expect(1, 9, 0, 0), "SWAP at 1", 101, 1, 20, 10, 9, 0, 7, 1);
    }

    private static void push() {
        int[] operands = {0, 1, 127, 128, 255};
        int[] values = {0, 1, 127, -128, -1};
        for (int i = 0; i < operands.length; i++) {
            does(bench(30, 16, operands[i]).expect(31, values[i]), "PUSH " + values[i],
                102, 31, 20, 10, values[i], 0, 4, 1);
        }
    }

    private static void load() {
        does(bench(30, 21, 0).expect(31, 200), "LOAD 0", 102, 31, 20, 10, 200, 0, 6, 1);
        does(bench(30, 21, 2).expect(31, 220), "LOAD 2", 102, 31, 20, 10, 220, 0, 6, 1);
        does(bench(30, 21, 11), "LOAD of where it goes", 102, 31, 20, 10, 310, 0, 6, 1);
        does(bench(30, 21, 10).words(30, 7).expect(31, 7), "LOAD of [SP]", 102, 31, 20, 10, 7, 0, 6, 1);
        does(bench(30, 21, 235).words(255, 5).expect(31, 5), "LOAD of 255", 102, 31, 20, 10, 5, 0, 6, 1);
        does(bench(30, 21, 255).boot(100, 30, -255, 0).words(0, 6).expect(31, 6), "LOAD 255 with LV below 0",
            102, 31, -255, 0, 6, 0, 6, 1);
    }

    private static void store() {
        does(bench(30, 54, 2).expect(22, 300), "STORE 2", 102, 29, 20, 10, 290, 0, 7, 1);
        // The word is written ahead of the read that gives TOP.
        does(bench(30, 54, 9).expect(29, 300), "STORE at SP - 1", 102, 29, 20, 10, 300, 0, 7, 1);
        does(bench(30, 54, 10).words(30, 7).expect(30, 300), "STORE at SP", 102, 29, 20, 10, 290, 0, 7, 1);
        does(bench(30, 54, 235).expect(255, 300), "STORE at 255", 102, 29, 20, 10, 290, 0, 7, 1);
        does(bench(30, 54, 200).boot(100, 30, -200, 0).expect(0, 300), "STORE at 0",
            102, 29, -200, 0, 290, 0, 7, 1);
        does(new Bench().words(255, 4).code(100, 54, 7).boot(100, 256, 0, 0), "STORE with SP 256",
            102, 255, 0, 0, 4, 0, 7, 1);
    }

    private static void wide() {
        does(bench(30, 196, 21, 0, 2).expect(31, 220), "WIDE LOAD 2", 104, 31, 20, 10, 220, 0, 10, 1);
        does(bench(30, 196, 54, 0, 2).expect(22, 300), "WIDE STORE 2", 104, 29, 20, 10, 290, 0, 11, 1);
        does(bench(30, 196, 54, 0, 9).expect(29, 300), "WIDE STORE at SP - 1", 104, 29, 20, 10, 300, 0, 11, 1);
        does(bench(30, 196, 21, 255, 254).boot(100, 30, 22 - 65534, 10).expect(31, 220), "WIDE LOAD 65534",
            104, 31, 22 - 65534, 10, 220, 0, 10, 1);
        does(bench(30, 196, 54, 1, 128).boot(100, 30, 22 - 384, 10).expect(22, 300), "WIDE STORE 384",
            104, 29, 22 - 384, 10, 290, 0, 11, 1);
    }

    private static void constant() {
        does(bench(30, 19, 0, 11).expect(31, 210), "CONSTANT 11", 103, 31, 20, 10, 210, 0, 8, 1);
        does(bench(30, 19, 128, 1).boot(100, 30, 20, 21 - 32769).expect(31, 210), "CONSTANT 32769",
            103, 31, 20, 21 - 32769, 210, 0, 8, 1);
        does(bench(30, 19, 1, 200).boot(100, 30, 20, 21 - 456).expect(31, 210), "CONSTANT 456",
            103, 31, 20, 21 - 456, 210, 0, 8, 1);
        does(bench(30, 19, 0, 21), "CONSTANT of where it goes", 103, 31, 20, 10, 310, 0, 8, 1);
    }

    private static void increase() {
        does(bench(30, 132, 2, 5).expect(22, 225), "INCREASE 2 5", 103, 30, 20, 10, 300, 0, 7, 1);
        does(bench(30, 132, 1, 128).expect(21, 82), "INCREASE 1 -128", 103, 30, 20, 10, 300, 0, 7, 1);
        does(bench(30, 132, 10, 127).expect(30, 427), "INCREASE of [SP]", 103, 30, 20, 10, 300, 0, 7, 1);
        does(bench(30, 132, 235, 255).expect(255, -1), "INCREASE 235 -1", 103, 30, 20, 10, 300, 0, 7, 1);
        does(bench(30, 132, 0, 1).words(20, MAX).expect(20, MIN), "INCREASE that wraps",
            103, 30, 20, 10, 300, 0, 7, 1);
        does(bench(-5, 132, 0, 1).expect(20, 201), "INCREASE with SP off", 103, -5, 20, 10, 0, 0, 7, 1);
    }

    private static void jump() {
        does(bench(30, 167, 0, 9), "GOTO 9", 109, 30, 20, 10, 300, 0, 7, 1);
        does(bench(30, 167, 255, 156), "GOTO -100", 0, 30, 20, 10, 300, 0, 7, 1);
        does(bench(30, 167, 0, 200), "GOTO 200", 300, 30, 20, 10, 300, 0, 7, 1);
        does(bench(30, 167, 127, 255), "GOTO 32767", 32867, 30, 20, 10, 300, 0, 7, 1);
        does(bench(30, 167, 128, 0), "GOTO -32768", -32668, 30, 20, 10, 300, 0, 7, 1);
        does(bench(30, 167, 0, 0), "GOTO 0", 100, 30, 20, 10, 300, 0, 7, 1);
    }

    private static void ifBelowAndIfZero() {
        int[] tops = {-1, MIN, 0, 1, MAX};
        for (int top : tops) {
            // What TOP was decides, not the word below it, nor the word at SP.
            boolean below = top < 0;
            Bench b = bench(30, 155, 255, 246).words(30, top, 29, below ? 4 : -4).boot(100, 30, 20, 10).words(30, 6);
            does(b, "IF BELOW with " + top, below ? 90 : 103, 29, 20, 10, below ? 4 : -4, 0, below ? 11 : 8, 1);
            boolean zero = top == 0;
            b = bench(30, 153, 1, 4).words(30, top, 29, zero ? 4 : 0).boot(100, 30, 20, 10).words(30, 6);
            does(b, "IF 0 with " + top, zero ? 360 : 103, 29, 20, 10, zero ? 4 : 0, 0, zero ? 11 : 8, 1);
        }
        does(bench(256, 153, 0, 5).words(255, 3), "IF 0 with SP 256", 105, 255, 20, 10, 3, 0, 11, 1);
        does(new Bench().words(40, 1).code(511, 153).boot(511, 40, 0, 0), "IF 0 without operands and jump",
            514, 39, 0, 0, 0, 0, 8, 1);
        does(new Bench().words(40, 1).code(510, 155, 0).boot(510, 40, 0, 0), "IF BELOW without operands and jump",
            513, 39, 0, 0, 0, 0, 8, 1);
    }

    private static void ifLike() {
        does(bench(30, 159, 0, 50), "IF LIKE, unlike", 103, 28, 20, 10, 280, 0, 10, 1);
        does(bench(30, 159, 0, 50).words(29, 300), "IF LIKE, like", 150, 28, 20, 10, 280, 0, 13, 1);
        does(bench(30, 159, 255, 206).words(29, 300, 30, 7), "IF LIKE, like with TOP not [SP]",
            50, 28, 20, 10, 280, 0, 13, 1);
        does(bench(30, 159, 0, 50).words(30, 290), "IF LIKE, unlike with TOP not [SP]",
            103, 28, 20, 10, 280, 0, 10, 1);
        does(bench(30, 159, 0, 50).words(28, 300), "IF LIKE, like two below", 103, 28, 20, 10, 300, 0, 10, 1);
        does(bench(256, 159, 0, 50), "IF LIKE with SP 256", 150, 254, 20, 10, 0, 0, 13, 1);
        does(bench(2, 159, 0, 50).words(0, 8, 1, 9), "IF LIKE with SP 2", 103, 0, 20, 10, 8, 0, 10, 1);
        does(new Bench().words(39, 1).code(511, 159).boot(511, 40, 0, 0), "IF LIKE without operands and jump",
            514, 38, 0, 0, 0, 0, 10, 1);
    }

    private static void call() {
        does(bench(30, 182, 0, 3).words(13, 60).code(60, 0, 2, 0, 4).expect(29, 35, 35, 103, 36, 20),
            "CALL", 64, 36, 29, 10, 29, 0, 23, 1);
        does(bench(30, 182, 0, 3).words(13, 508).code(508, 0, 1, 0, 223).expect(30, 254, 254, 103, 255, 20),
            "CALL of the last bytes, up to the last word", 512, 255, 30, 10, 30, 0, 23, 1);
        does(bench(30, 182, 0, 3).words(13, 0).code(0, 0, 31, 0, 0).expect(0, 31, 31, 103, 32, 20),
            "CALL of byte 0, down to word 0", 4, 32, 0, 10, 0, 0, 23, 1);
        does(bench(30, 182, 255, 255).words(13, 60).code(60, 0, 1, 0, 0).boot(100, 30, -4, 13 - 65535)
            .expect(30, 31, 31, 103, 32, -4), "CALL 65535", 64, 32, 30, 13 - 65535, 30, 0, 23, 1);
    }

    private static void callsThatOverlap() {
        // Without arguments and room, the link lies on the frame's word and is written behind it.
        does(bench(30, 182, 0, 3).words(13, 60).code(60, 0, 0, 0, 0).expect(31, 103, 32, 20),
            "CALL with the link on the frame", 64, 32, 31, 10, 31, 0, 23, 1);
        does(bench(-1, 182, 0, 3).words(13, 60).code(60, 0, 0, 0, 0).expect(0, 103, 1, 20),
            "CALL with SP -1", 64, 1, 0, 10, 0, 0, 23, 1);
        // The words of the frame may lie on the constant that told the method.
        does(bench(30, 182, 0, 20).words(30, 60).code(60, 0, 1, 0, 0).expect(30, 31, 31, 103, 32, 20),
            "CALL over its constant", 64, 32, 30, 10, 30, 0, 23, 1);
    }

    private static void leave() {
        does(bench(40, 172).words(20, 28, 40, 5).boot(100, 40, 20, 10).expect(20, 5), "RETURN",
            280, 20, 290, 10, 5, 0, 9, 1);
        does(bench(40, 172).words(20, 28, 40, 5).boot(100, 40, 20, 10).words(40, 6).expect(20, 5),
            "RETURN with TOP not [SP]", 280, 20, 290, 10, 5, 0, 9, 1);
        // PC and LV are read ahead of the write.
        does(bench(30, 172).words(20, 20).expect(20, 300), "RETURN with the link at LV",
            20, 20, 210, 10, 300, 0, 9, 1);
        does(bench(30, 172).words(20, 19).expect(20, 300), "RETURN with the link below LV",
            190, 20, 19, 10, 300, 0, 9, 1);
        does(bench(900, 172).words(20, 254, 254, -8, 255, MIN).expect(20, 0), "RETURN from the last words",
            -8, 20, MIN, 10, 0, 0, 9, 1);
        does(bench(30, 172).words(0, 0, 1, 77).boot(100, 30, 0, 10).expect(0, 300), "RETURN at word 0",
            0, 0, 77, 10, 300, 0, 9, 1);
        does(bench(30, 172).words(255, 21).boot(100, 30, 255, 10).expect(255, 300), "RETURN at word 255",
            210, 255, 220, 10, 300, 0, 9, 1);
    }

    private static void halt() {
        does(bench(30, 255), "HALT", 100, 30, 20, 10, 300, 1, 2, 1);
        does(bench(-9, 255), "HALT with SP off", 100, -9, 20, 10, 0, 1, 2, 1);
    }

    private static void operandsUpToTheLastByte() {
        does(ending(16, 7).expect(31, 7), "last PUSH", 512, 31, 20, 10, 7, 0, 4, 1);
        does(ending(21, 2).expect(31, 220), "last LOAD", 512, 31, 20, 10, 220, 0, 6, 1);
        does(ending(54, 2).expect(22, 300), "last STORE", 512, 29, 20, 10, 290, 0, 7, 1);
        does(ending(196, 21, 0, 2).expect(31, 220), "last WIDE LOAD", 512, 31, 20, 10, 220, 0, 10, 1);
        does(ending(196, 54, 0, 2).expect(22, 300), "last WIDE STORE", 512, 29, 20, 10, 290, 0, 11, 1);
        does(ending(19, 0, 11).expect(31, 210), "last CONSTANT", 512, 31, 20, 10, 210, 0, 8, 1);
        does(ending(132, 2, 5).expect(22, 225), "last INCREASE", 512, 30, 20, 10, 300, 0, 7, 1);
        does(ending(167, 255, 255), "last GOTO", 508, 30, 20, 10, 300, 0, 7, 1);
        does(ending(159, 0, 1).words(29, 300), "last IF LIKE", 510, 28, 20, 10, 280, 0, 13, 1);
        does(ending(182, 0, 3).words(13, 60).code(60, 0, 2, 0, 4).expect(29, 35, 35, 512, 36, 20),
            "last CALL", 64, 36, 29, 10, 29, 0, 23, 1);
    }

    private static Bench ending(int... bytes) {
        int at = 512 - bytes.length;
        return bench(30).code(at, bytes).boot(at, 30, 20, 10);
    }
}
