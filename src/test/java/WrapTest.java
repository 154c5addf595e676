/** "Sums of ints wrap": those that an instruction writes, and those that tell a place, which then is not there. */
public final class WrapTest {
    private static final int MIN = Integer.MIN_VALUE;
    private static final int MAX = Integer.MAX_VALUE;
    private static final int FAULTED = 3;
    private static final Check CHECK = new Check();

    public static void main(String[] args) {
        addWraps();
        subWraps();
        increaseWraps();
        placesOnTheStackWrap();
        placesOfLocalsAndConstantsWrap();
        placesOfCallWrap();
        placesOfReturnWrap();
        sumWraps();
        CHECK.done();
    }

    private static Bench bench(int below, int top, int... bytes) {
        return new Bench().words(29, below, 30, top).code(100, bytes).boot(100, 30, 20, 10);
    }

    private static void combines(String name, int opcode, int below, int top, int due) {
        bench(below, top, opcode).expect(29, due)
            .does(CHECK, name + " of " + below + " and " + top, 101, 29, 20, 10, due, 0, 4, 1);
    }

    private static void addWraps() {
        combines("ADD", 96, MAX, 1, MIN);
        combines("ADD", 96, 1, MAX, MIN);
        combines("ADD", 96, MIN, -1, MAX);
        combines("ADD", 96, MAX, MAX, -2);
        combines("ADD", 96, MIN, MIN, 0);
        combines("ADD", 96, MAX, MIN, -1);
    }

    private static void subWraps() {
        combines("SUB", 100, MIN, 1, MAX);
        combines("SUB", 100, MAX, -1, MIN);
        combines("SUB", 100, 0, MIN, MIN);
        combines("SUB", 100, -1, MIN, MAX);
        combines("SUB", 100, MIN, MAX, 1);
        combines("SUB", 100, MIN, MIN, 0);
    }

    private static void increaseWraps() {
        int[] from = {MAX, MIN, MAX - 126, MIN + 127, MAX, MIN};
        int[] by = {1, -1, 127, -128, 127, -128};
        int[] due = {MIN, MAX, MIN, MAX, MIN + 126, MAX - 127};
        for (int i = 0; i < from.length; i++) {
            new Bench().words(22, from[i], 30, 7).code(100, 132, 2, by[i]).boot(100, 30, 20, 10).expect(22, due[i])
                .does(CHECK, "INCREASE of " + from[i] + " by " + by[i], 103, 30, 20, 10, 7, 0, 7, 1);
        }
    }

    private static void faults(String what, int sp, int lv, int cpp, int... bytes) {
        new Bench().words(13, 60, 255, 5, 254, 6, 0, 7, 1, 8).code(100, bytes).boot(100, sp, lv, cpp)
            .stops(CHECK, what, FAULTED);
    }

    private static void placesOnTheStackWrap() {
        for (int opcode : new int[] {89, 16, 21, 19}) {
            faults(opcode + " with the highest SP", MAX, 20, 10, opcode, 0, 0);
        }
        for (int opcode : new int[] {96, 100, 126, 128, 87, 95, 54, 155, 153, 159}) {
            faults(opcode + " with the lowest SP", MIN, 20, 10, opcode, 0, 0);
        }
        faults("IF LIKE with the lowest SP but one", MIN + 1, 20, 10, 159, 0, 0);
    }

    private static void placesOfLocalsAndConstantsWrap() {
        for (int opcode : new int[] {21, 54, 132}) {
            faults(opcode + " 1 with the highest LV", 30, MAX, 10, opcode, 1, 1);
            faults(opcode + " 255 with the highest LV", 30, MAX, 10, opcode, 255, 1);
        }
        for (int opcode : new int[] {21, 54}) {
            faults("WIDE " + opcode + " 65535 with the highest LV", 30, MAX, 10, 196, opcode, 255, 255);
        }
        for (int opcode : new int[] {19, 182}) {
            faults(opcode + " 1 with the highest CPP", 30, 20, MAX, opcode, 0, 1);
            faults(opcode + " 65535 with the highest CPP", 30, 20, MAX, opcode, 255, 255);
        }
    }

    private static void placesOfCallWrap() {
        for (int m : new int[] {MAX, MAX - 1, MAX - 2, MAX - 3, MIN}) {
            new Bench().words(13, m).code(100, 182, 0, 3).boot(100, 30, 20, 10)
                .stops(CHECK, "CALL of byte " + m, FAULTED);
        }
        for (int count : new int[] {0, 1, 255}) {
            for (int sp : new int[] {MAX, MAX - 1, MIN, MIN + 1}) {
                new Bench().words(13, 60).code(60, count, count, count, count).code(100, 182, 0, 3)
                    .boot(100, sp, 20, 10).stops(CHECK, "CALL with counts of " + count + ", SP " + sp, FAULTED);
            }
        }
    }

    private static void placesOfReturnWrap() {
        for (int b : new int[] {MAX, MIN, -1}) {
            new Bench().words(20, b, 0, 5, 30, 6).code(100, 172).boot(100, 30, 20, 10)
                .stops(CHECK, "RETURN with link " + b, FAULTED);
        }
    }

    private static void sumWraps() {
        StackComputer x = new StackComputer();
        x.word(254, MAX);
        CHECK.same("sum that wraps by 31 times", x.sum(), MAX - 30);
        x.word(254, 69273666);
        CHECK.same("sum that just doesn't wrap", x.sum(), 2147483646);
        x.word(255, 1);
        CHECK.same("sum at its highest", x.sum(), MAX);
        x.word(255, 2);
        CHECK.same("sum that wraps by the word", x.sum(), MIN);
        x.word(255, MAX);
        CHECK.same("sum that wraps by the highest word", x.sum(), -3);
        x.word(254, MIN);
        x.word(255, 0);
        CHECK.same("sum that wraps to the lowest", x.sum(), MIN);
        x.word(255, -1);
        CHECK.same("sum that wraps below the lowest", x.sum(), MAX);
    }
}
