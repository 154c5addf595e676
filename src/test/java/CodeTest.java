/** Promise 3. */
public final class CodeTest {
    public static void main(String[] args) {
        Check check = new Check();
        lowestByteComesFirst(check);
        setsFourBytesAtAnyPlace(check);
        setsTheLastBytes(check);
        takesEveryPlaceThatIsThere(check);
        keepsEveryByte(check);
        leavesRegistersAlone(check);
        refusesWhatIsNotAllThere(check);
        check.done();
    }

    private static void lowestByteComesFirst(Check check) {
        Bench b = new Bench();
        // PUSH -3, PUSH 18
        b.x.code(0, 0x1210FD10);
        check.same("run", b.x.run(2), 2);
        check.registers("PUSH -3, PUSH 18", b.x, 4, 2, 0, 0, 18, 0, 8, 2);
        b.expect(1, -3, 2, 18).checkWords(check, "PUSH -3, PUSH 18");
    }

    private static void setsFourBytesAtAnyPlace(Check check) {
        for (int a = 4; a < 8; a++) {
            StackComputer x = new StackComputer();
            for (int i = 0; i < 16; i += 4) {
                x.code(i, 0x10101010);
            }
            // PUSH 33, PUSH 34 among bytes that are all PUSH, or 16 behind one.
            x.code(a, 0x22102110);
            pushes(check, x, a - 2, 16);
            pushes(check, x, a - 1, 16);
            pushes(check, x, a, 33);
            pushes(check, x, a + 2, 34);
            pushes(check, x, a + 4, 16);
        }
    }

    private static void pushes(Check check, StackComputer x, int pc, int due) {
        x.boot(pc, 0, 0, 0);
        x.run(1);
        check.registers("PUSH " + due + " at " + pc, x, pc + 2, 1, 0, 0, due, 0, 4, 1);
    }

    private static void setsTheLastBytes(Check check) {
        StackComputer x = new StackComputer();
        x.code(508, 0xFF109F10);
        x.boot(508, 0, 0, 0);
        check.same("run", x.run(1), 1);
        check.registers("PUSH at 508", x, 510, 1, 0, 0, -97, 0, 4, 1);
        check.same("run", x.run(1), 1);
        check.registers("PUSH at 510", x, 512, 2, 0, 0, -1, 0, 8, 2);
        x.boot(511, 0, 0, 0);
        check.same("run", x.run(1), 1);
        check.registers("HALT at 511", x, 511, 0, 0, 0, 0, 1, 2, 1);
    }

    private static void takesEveryPlaceThatIsThere(Check check) {
        for (int a = 0; a <= 508; a++) {
            StackComputer x = new StackComputer();
            // OR, AND, PUSH 100: each of the four bytes tells itself by what it does.
            x.code(a, 0x64107E80);
            x.word(8, 21);
            x.word(9, 12);
            x.word(10, 3);
            x.boot(a, 10, 0, 0);
            check.same("run of code at " + a, x.run(3), 3);
            check.registers("code at " + a, x, a + 4, 9, 0, 0, 100, 0, 12, 3);
            check.same("OR and AND at " + a, x.look(8), 5);
        }
    }

    /** Each value of a byte, in each of the four places. */
    private static void keepsEveryByte(Check check) {
        for (int v = 0; v < 256; v++) {
            for (int i = 0; i < 4; i++) {
                StackComputer x = new StackComputer();
                x.code(203 - i, 0x10101010);
                x.code(204 - i, 0x10101010 & ~(255 << 8 * i) | v << 8 * i);
                pushes(check, x, 203, (byte) v);
            }
        }
    }

    private static void leavesRegistersAlone(Check check) {
        Bench b = new Bench().words(7, 70).code(0, 255).boot(0, 7, 6, 5);
        b.x.run(1);
        b.x.code(0, 0);
        check.registers("code on a halted machine", b.x, 0, 7, 6, 5, 70, 1, 2, 1);
        b.checkWords(check, "code");
    }

    private static void refusesWhatIsNotAllThere(Check check) {
        StackComputer x = new StackComputer();
        x.code(0, 0x10101010);
        x.code(508, 0x10101010);
        int[] places = {-1, -2, -3, -4, 509, 510, 511, 512, Integer.MIN_VALUE, Integer.MAX_VALUE,
            Integer.MAX_VALUE - 3};
        for (int a : places) {
            check.refuses("code(" + a + ", 0)", x, IndexOutOfBoundsException.class, () -> x.code(a, 0));
        }
        for (int pc : new int[] {0, 1, 2, 508, 509, 510}) {
            pushes(check, x, pc, 16);
        }
    }
}
