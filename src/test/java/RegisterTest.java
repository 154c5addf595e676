/** Promise 6. */
public final class RegisterTest {
    public static void main(String[] args) {
        Check check = new Check();
        tellsEachRegister(check);
        tellsHowItStopped(check);
        refusesAnotherWhat(check);
        check.done();
    }

    private static void tellsEachRegister(Check check) {
        StackComputer x = new StackComputer();
        x.word(60, 5);
        x.boot(40, 60, 70, 80);
        x.run(3);
        int[] due = {43, 60, 70, 80, 5, 0, 6, 3};
        for (int i = 0; i < due.length; i++) {
            check.same("register(" + i + ")", x.register(i), due[i]);
            check.same("register(" + i + ") again", x.register(i), due[i]);
        }
    }

    private static void tellsHowItStopped(Check check) {
        StackComputer x = new StackComputer();
        Bench.load(x, 0, 0, 255, 1, 87);
        for (int stop = 0; stop < 4; stop++) {
            x.boot(stop, 0, 0, 0);
            x.run(1);
            check.same("register(5)", x.register(5), stop);
        }
    }

    private static void refusesAnotherWhat(Check check) {
        StackComputer x = new StackComputer();
        x.boot(1, 2, 3, 4);
        for (int what : new int[] {-1, 8, 9, 255, Integer.MIN_VALUE, Integer.MAX_VALUE}) {
            check.refuses("register(" + what + ")", x, IllegalArgumentException.class, () -> x.register(what));
        }
    }
}
