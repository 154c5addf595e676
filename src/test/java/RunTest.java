/** Promise 5, but for what each instruction does: that is InstructionsTest and StopsTest. */
public final class RunTest {
    public static void main(String[] args) {
        Check check = new Check();
        doesNInstructions(check);
        countsHaltButNoTrapOrFault(check);
        doesAThousand(check);
        refusesWrongN(check);
        refusesWhenStopped(check);
        check.done();
    }

    private static void doesNInstructions(Check check) {
        StackComputer x = new StackComputer();
        Bench.load(x, 0, 16, 1, 16, 2, 16, 3, 96, 96, 255);
        check.same("run(0)", x.run(0), 0);
        check.registers("run(0)", x, 0, 0, 0, 0, 0, 0, 0, 0);
        check.same("run(1)", x.run(1), 1);
        check.registers("run(1)", x, 2, 1, 0, 0, 1, 0, 4, 1);
        check.same("run(3)", x.run(3), 3);
        check.registers("run(3)", x, 7, 2, 0, 0, 5, 0, 16, 4);
        check.same("run(1000)", x.run(1000), 2);
        check.registers("run(1000)", x, 8, 1, 0, 0, 6, 1, 22, 6);
    }

    private static void countsHaltButNoTrapOrFault(Check check) {
        StackComputer x = new StackComputer();
        Bench.load(x, 0, 0, 0, 255, 0, 1, 0, 87, 0);
        x.boot(0, 0, 0, 0);
        check.same("run into HALT", x.run(3), 3);
        check.registers("HALT", x, 2, 0, 0, 0, 0, 1, 6, 3);
        x.boot(3, 0, 0, 0);
        check.same("run into a trap", x.run(3), 1);
        check.registers("trap", x, 4, 0, 0, 0, 0, 2, 2, 1);
        x.boot(5, 0, 0, 0);
        check.same("run into a fault", x.run(3), 1);
        check.registers("fault", x, 6, 0, 0, 0, 0, 3, 2, 1);
        x.boot(5, 0, 0, 0);
        check.same("run just ahead of a fault", x.run(1), 1);
        check.registers("what is ahead of a fault", x, 6, 0, 0, 0, 0, 0, 2, 1);
        check.same("run at a fault", x.run(1), 0);
    }

    private static void doesAThousand(Check check) {
        StackComputer x = new StackComputer();
        Bench.load(x, 0, 167, 0, 0);
        for (int i = 1; i <= 400; i++) {
            check.same("run(1000)", x.run(1000), 1000);
        }
        check.registers("a loop", x, 0, 0, 0, 0, 0, 0, 2800000, 400000);
        check.same("run(999)", x.run(999), 999);
    }

    private static void refusesWrongN(Check check) {
        StackComputer x = new StackComputer();
        for (int n : new int[] {-1, 1001, 1002, Integer.MIN_VALUE, Integer.MAX_VALUE}) {
            check.refuses("run(" + n + ")", x, IllegalArgumentException.class, () -> x.run(n));
        }
    }

    private static void refusesWhenStopped(Check check) {
        StackComputer x = new StackComputer();
        Bench.load(x, 0, 255, 1, 172, 0);
        for (int pc = 0; pc < 3; pc++) {
            x.boot(pc, 0, 256, 0);
            x.run(1);
            for (int n : new int[] {0, 1, 1000}) {
                check.refuses("run(" + n + ") when stopped", x, IllegalStateException.class, () -> x.run(n));
            }
            for (int n : new int[] {-1, 1001}) {
                check.refuses("run(" + n + ") when stopped", x, IllegalArgumentException.class, () -> x.run(n));
            }
        }
    }
}
