import java.util.Arrays;

/** Counts and prints the answers that are not as due; done() ends a test's main method. */
final class Check {
    private int wrong = 0;

    void same(String what, long got, long want) {
        if (got != want) {
            tell(what + " is " + got + ", due is " + want);
        }
    }

    void same(String what, String got, String want) {
        if (!got.equals(want)) {
            tell(what + " is " + got + ", due is " + want);
        }
    }

    /** The exception is of just this class, and the call leaves everything that can be seen as it was. */
    void refuses(String what, StackComputer x, Class<? extends RuntimeException> due, Runnable call) {
        String before = seen(x);
        try {
            call.run();
            tell(what + " throws nothing, due is " + due.getSimpleName());
        } catch (RuntimeException e) {
            if (e.getClass() != due) {
                tell(what + " throws " + e + ", due is " + due.getSimpleName());
            }
        }
        same("what is seen after " + what, seen(x), before);
    }

    /** PC, SP, LV, CPP, TOP, how it goes on, cycles, instructions done. */
    void registers(String what, StackComputer x, int... due) {
        same("registers after " + what, registers(x), Arrays.toString(due));
    }

    static String registers(StackComputer x) {
        return Arrays.toString(allRegisters(x));
    }

    static int[] allRegisters(StackComputer x) {
        int[] all = new int[8];
        for (int i = 0; i < all.length; i++) {
            all[i] = x.register(i);
        }
        return all;
    }

    private static String seen(StackComputer x) {
        return registers(x) + " sum " + x.sum();
    }

    private void tell(String text) {
        wrong++;
        System.out.println(text);
    }

    void done() {
        if (wrong != 0) {
            System.out.println(wrong + " answers are not as due");
            System.exit(1);
        }
    }
}
