/**
 * "u (without sign), s (with sign, -128 .. 127), or two bytes, the higher one first, uu (without sign) or ss (with
 * sign)": each instruction's operands over their whole width.
 */
public final class OperandsTest {
    private static final int[] PAIRS = {0, 1, 127, 128, 255, 256, 257, 258, 513, 32512, 32767, 32768, 33023, 65280,
        65281, 65534, 65535};
    private static final Check CHECK = new Check();

    public static void main(String[] args) {
        oneByteWithoutSign();
        oneByteWithSign();
        twoBytesWithoutSign();
        twoBytesWithSign();
        countsOfCallWithoutSign();
        CHECK.done();
    }

    private static Bench bench(int... bytes) {
        return new Bench().words(29, 290, 30, 300, 40, 60).code(100, bytes);
    }

    private static void oneByteWithoutSign() {
        for (int u = 0; u < 256; u++) {
            int lv = 40 - u;
            bench(21, u).boot(100, 30, lv, 10).expect(31, 60)
                .does(CHECK, "LOAD " + u, 102, 31, lv, 10, 60, 0, 6, 1);
            bench(54, u).boot(100, 30, lv, 10).expect(40, 300)
                .does(CHECK, "STORE " + u, 102, 29, lv, 10, 290, 0, 7, 1);
            bench(132, u, 1).boot(100, 30, lv, 10).expect(40, 61)
                .does(CHECK, "INCREASE " + u + " 1", 103, 30, lv, 10, 300, 0, 7, 1);
        }
    }

    private static void oneByteWithSign() {
        for (int s = -128; s < 128; s++) {
            bench(16, s).boot(100, 30, 20, 10).expect(31, s)
                .does(CHECK, "PUSH " + s, 102, 31, 20, 10, s, 0, 4, 1);
            bench(132, 20, s).boot(100, 30, 20, 10).expect(40, 60 + s)
                .does(CHECK, "INCREASE 20 " + s, 103, 30, 20, 10, 300, 0, 7, 1);
        }
    }

    private static void twoBytesWithoutSign() {
        for (int uu : PAIRS) {
            int high = uu / 256;
            int low = uu % 256;
            int base = 40 - uu;
            bench(196, 21, high, low).boot(100, 30, base, 10).expect(31, 60)
                .does(CHECK, "WIDE LOAD " + uu, 104, 31, base, 10, 60, 0, 10, 1);
            bench(196, 54, high, low).boot(100, 30, base, 10).expect(40, 300)
                .does(CHECK, "WIDE STORE " + uu, 104, 29, base, 10, 290, 0, 11, 1);
            bench(19, high, low).boot(100, 30, 20, base).expect(31, 60)
                .does(CHECK, "CONSTANT " + uu, 103, 31, 20, base, 60, 0, 8, 1);
            bench(182, high, low).boot(100, 30, 20, base).expect(31, 103, 32, 20)
                .does(CHECK, "CALL " + uu, 64, 32, 31, base, 31, 0, 23, 1);
        }
    }

    private static void twoBytesWithSign() {
        for (int uu : PAIRS) {
            int ss = uu < 32768 ? uu : uu - 65536;
            int high = uu / 256;
            int low = uu % 256;
            bench(167, high, low).boot(100, 30, 20, 10)
                .does(CHECK, "GOTO " + ss, 100 + ss, 30, 20, 10, 300, 0, 7, 1);
            bench(155, high, low).words(30, -1).boot(100, 30, 20, 10)
                .does(CHECK, "IF BELOW " + ss, 100 + ss, 29, 20, 10, 290, 0, 11, 1);
            bench(153, high, low).words(30, 0).boot(100, 30, 20, 10)
                .does(CHECK, "IF 0 " + ss, 100 + ss, 29, 20, 10, 290, 0, 11, 1);
            bench(159, high, low).words(30, 290).boot(100, 30, 20, 10)
                .does(CHECK, "IF LIKE " + ss, 100 + ss, 28, 20, 10, 0, 0, 13, 1);
        }
    }

    private static void countsOfCallWithoutSign() {
        for (int count = 0; count < 255; count++) {
            // As high a stack as the last words leave room for, and as low a one as the first word does.
            int frame = 254 - count;
            new Bench().code(60, 0, count, 0, 0).code(100, 182, 0, 0).words(200, 60).boot(100, 253, 20, 200)
                .expect(frame, 254, 254, 103, 255, 20)
                .does(CHECK, "CALL with n " + count, 64, 255, frame, 200, frame, 0, 23, 1);
            new Bench().code(60, 0, 0, 0, count).code(100, 182, 0, 0).words(200, 60).boot(100, -1, 20, 200)
                .expect(0, count).expect(count, 103, count + 1, 20)
                .does(CHECK, "CALL with k " + count, 64, count + 1, 0, 200, 0, 0, 23, 1);
        }
    }
}
