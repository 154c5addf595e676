/** Promise 5, but for what each instruction does: that is InstructionsTest and StopsTest. */
public final class RunTest {
    public static void main(String[] args) {
        Check check = new Check();
        doesNInstructions(check);
        countsHaltButNoTrapOrFault(check);
        doesAThousand(check);
        haltsOnTheLastOfN(check);
        stopsBehindNDone(check);
        haltsOnTheThousandth(check);
        goesOnToThe512thCall(check);
        refusesWrongN(check);
        refusesWhenStopped(check);
        check.done();
    }

    private static void runs(Check check, StackComputer x, int n, int due, String what, int... registers) {
        check.same(what, x.run(n), due);
        check.registers(what, x, registers);
    }

    private static void doesNInstructions(Check check) {
        StackComputer x = new StackComputer();
        Bench.load(x, 0, 16, 1, 16, 2, 16, 3, 96, 96, 255);
        runs(check, x, 0, 0, "run(0)", 0, 0, 0, 0, 0, 0, 0, 0);
        runs(check, x, 1, 1, "run(1)", 2, 1, 0, 0, 1, 0, 4, 1);
        runs(check, x, 3, 3, "run(3)", 7, 2, 0, 0, 5, 0, 16, 4);
        runs(check, x, 1000, 2, "run(1000)", 8, 1, 0, 0, 6, 1, 22, 6);
    }

    private static void countsHaltButNoTrapOrFault(Check check) {
        StackComputer x = new StackComputer();
        Bench.load(x, 0, 0, 0, 255, 0, 1, 0, 87, 0);
        x.boot(0, 0, 0, 0);
        runs(check, x, 3, 3, "run into HALT", 2, 0, 0, 0, 0, 1, 6, 3);
        x.boot(3, 0, 0, 0);
        runs(check, x, 3, 1, "run into a trap", 4, 0, 0, 0, 0, 2, 2, 1);
        x.boot(5, 0, 0, 0);
        runs(check, x, 3, 1, "run into a fault", 6, 0, 0, 0, 0, 3, 2, 1);
        x.boot(5, 0, 0, 0);
        runs(check, x, 1, 1, "run just ahead of a fault", 6, 0, 0, 0, 0, 0, 2, 1);
        check.same("run at a fault", x.run(1), 0);
    }

    private static void doesAThousand(Check check) {
        StackComputer x = new StackComputer();
        Bench.load(x, 0, 167, 0, 0);
        for (int i = 1; i <= 400; i++) {
            check.same("run(1000)", x.run(1000), 1000);
        }
        check.registers("a loop", x, 0, 0, 0, 0, 0, 0, 2800000, 400000);
        check.same("run(999)", x.run(999), 999);
    }

    /** A machine with 511 NOPs and another opcode behind them. */
    private static StackComputer nopsAnd(int opcode) {
        StackComputer x = new StackComputer();
        Bench.load(x, 511, opcode);
        return x;
    }

    private static void haltsOnTheLastOfN(Check check) {
        for (int n : new int[] {512, 513, 1000}) {
            StackComputer x = nopsAnd(255);
            runs(check, x, n, 512, "run(" + n + ") up to HALT", 511, 0, 0, 0, 0, 1, 1024, 512);
        }
        StackComputer x = nopsAnd(255);
        runs(check, x, 511, 511, "run just ahead of HALT", 511, 0, 0, 0, 0, 0, 1022, 511);
        runs(check, x, 0, 0, "run(0) at HALT", 511, 0, 0, 0, 0, 0, 1022, 511);
        runs(check, x, 1, 1, "run(1) at HALT", 511, 0, 0, 0, 0, 1, 1024, 512);
    }

    private static void stopsBehindNDone(Check check) {
        StackComputer traps = nopsAnd(1);
        runs(check, traps, 511, 511, "run just ahead of a trap", 511, 0, 0, 0, 0, 0, 1022, 511);
        check.same("run(0) at a trap", traps.run(0), 0);
        check.same("how it goes on at a trap", traps.register(5), 0);
        runs(check, traps, 1000, 0, "run(1000) at a trap", 511, 0, 0, 0, 0, 2, 1022, 511);
        StackComputer faults = nopsAnd(0);
        runs(check, faults, 512, 512, "run just to the end of the code", 512, 0, 0, 0, 0, 0, 1024, 512);
        check.same("run(0) behind the code", faults.run(0), 0);
        check.same("how it goes on behind the code", faults.register(5), 0);
        runs(check, faults, 1000, 0, "run(1000) behind the code", 512, 0, 0, 0, 0, 3, 1024, 512);
    }

    /** INCREASE, LOAD, CONSTANT, IF LIKE and GOTO, 200 times but for the last GOTO; then HALT. */
    private static StackComputer thousand() {
        StackComputer x = new StackComputer();
        Bench.load(x, 0, 132, 0, 1, 21, 0, 19, 0, 0, 159, 0, 6, 167, 255, 245, 255);
        x.word(10, 200);
        x.boot(0, 30, 20, 10);
        return x;
    }

    private static void haltsOnTheThousandth(Check check) {
        StackComputer x = thousand();
        runs(check, x, 1000, 1000, "run(1000) up to HALT", 14, 30, 20, 10, 0, 1, 7598, 1000);
        x = thousand();
        runs(check, x, 999, 999, "run(999) just ahead of HALT", 14, 30, 20, 10, 0, 0, 7596, 999);
        runs(check, x, 1000, 1, "run(1000) at HALT", 14, 30, 20, 10, 0, 1, 7598, 1000);
    }

    private static void goesOnToThe512thCall(Check check) {
        StackComputer x = new StackComputer();
        x.code(0, 167);
        for (int call = 2; call < 511; call++) {
            check.same("run(1000) as call " + call, x.run(1000), 1000);
        }
        check.same("cycles as call 511", x.register(6), 3563000);
        check.same("instructions as call 512", x.register(7), 509000);
    }

    private static void refusesWrongN(Check check) {
        StackComputer x = new StackComputer();
        for (int n : new int[] {-1, 1001, 1002, Integer.MIN_VALUE, Integer.MAX_VALUE}) {
            check.refuses("run(" + n + ")", x, IllegalArgumentException.class, () -> x.run(n));
        }
    }

    private static void refusesWhenStopped(Check check) {
        StackComputer x = new StackComputer();
        Bench.load(x, 0, 255, 1, 172, 0);
        for (int pc = 0; pc < 3; pc++) {
            x.boot(pc, 0, 256, 0);
            x.run(1);
            for (int n : new int[] {0, 1, 1000}) {
                check.refuses("run(" + n + ") when stopped", x, IllegalStateException.class, () -> x.run(n));
            }
            for (int n : new int[] {-1, 1001}) {
                check.refuses("run(" + n + ") when stopped", x, IllegalArgumentException.class, () -> x.run(n));
            }
        }
    }
}
