/** Promise 1. */
public final class NewObjectTest {
    public static void main(String[] args) {
        Check check = new Check();
        allIsZero(check);
        goesOnAtByteZero(check);
        codeIsZeroToItsEnd(check);
        objectsShareNothing(check);
        check.done();
    }

    private static void allIsZero(Check check) {
        StackComputer x = new StackComputer();
        check.registers("making", x, 0, 0, 0, 0, 0, 0, 0, 0);
        for (int a = 0; a < 256; a++) {
            check.same("word " + a, x.look(a), 0);
        }
        check.same("sum", x.sum(), 0);
    }

    private static void goesOnAtByteZero(Check check) {
        StackComputer x = new StackComputer();
        Bench.load(x, 0, 16, 5, 255);
        check.same("run", x.run(10), 2);
        check.registers("PUSH 5, HALT on a new object", x, 2, 1, 0, 0, 5, 1, 6, 2);
    }

    private static void codeIsZeroToItsEnd(Check check) {
        StackComputer x = new StackComputer();
        check.same("run over 512 NOPs", x.run(1000), 512);
        check.registers("512 NOPs", x, 512, 0, 0, 0, 0, 3, 1024, 512);
    }

    private static void objectsShareNothing(Check check) {
        StackComputer x = new StackComputer();
        StackComputer y = new StackComputer();
        x.word(3, 7);
        Bench.load(x, 0, 255);
        x.boot(0, 3, 2, 1);
        x.run(1);
        check.same("word 3 of the other", y.look(3), 0);
        check.same("run of the other", y.run(3), 3);
        check.registers("three NOPs", y, 3, 0, 0, 0, 0, 0, 6, 3);
    }
}
