/** Promise 4. */
public final class BootTest {
    public static void main(String[] args) {
        Check check = new Check();
        setsRegisters(check);
        takesTopFromTheStack(check);
        goesOnAfterEveryStop(check);
        keepsWordsAndCode(check);
        check.done();
    }

    private static void setsRegisters(Check check) {
        StackComputer x = new StackComputer();
        x.boot(1, 2, 3, 4);
        check.registers("boot", x, 1, 2, 3, 4, 0, 0, 0, 0);
        x.boot(Integer.MIN_VALUE, Integer.MAX_VALUE, -1, -5);
        check.registers("boot far off", x, Integer.MIN_VALUE, Integer.MAX_VALUE, -1, -5, 0, 0, 0, 0);
    }

    private static void takesTopFromTheStack(Check check) {
        Bench b = new Bench().words(0, 50, 9, -9, 255, 60);
        int[] places = {0, 9, 255, -1, 256, 9, Integer.MIN_VALUE, 255, Integer.MAX_VALUE};
        int[] tops = {50, -9, 60, 0, 0, -9, 0, 60, 0};
        for (int i = 0; i < places.length; i++) {
            b.boot(0, places[i], 0, 0);
            check.same("TOP with SP " + places[i], b.x.register(4), tops[i]);
        }
    }

    private static void goesOnAfterEveryStop(Check check) {
        StackComputer x = new StackComputer();
        Bench.load(x, 0, 255, 1, 172, 0);
        int[] stops = {1, 2, 3};
        int[] lvs = {0, 0, 256};
        for (int i = 0; i < 3; i++) {
            x.boot(i, 10, lvs[i], 0);
            x.run(1);
            check.same("how it stopped", x.register(5), stops[i]);
            x.boot(3, 10, 0, 0);
            check.registers("boot after a stop", x, 3, 10, 0, 0, 0, 0, 0, 0);
            check.same("run after a stop", x.run(2), 2);
            check.registers("two NOPs", x, 5, 10, 0, 0, 0, 0, 4, 2);
        }
    }

    private static void keepsWordsAndCode(Check check) {
        Bench b = new Bench().words(4, 44, 200, -2).code(0, 16, 3).boot(0, 4, 4, 4);
        b.boot(0, 4, 4, 4);
        b.checkWords(check, "boot");
        b.x.run(1);
        check.registers("PUSH 3", b.x, 2, 5, 4, 4, 3, 0, 4, 1);
    }
}
