/** The example of README.md, call by call. */
public final class ExampleTest {
    public static void main(String[] args) {
        Check check = new Check();
        StackComputer x = new StackComputer();
        x.code(0, 0x03100210);
        x.code(4, 0x0000FF60);
        x.boot(0, 30, 20, 10);
        check.same("run(100)", x.run(100), 4);
        check.same("register(4)", x.register(4), 5);
        check.same("register(5)", x.register(5), 1);
        check.same("register(6)", x.register(6), 14);
        check.same("look(31)", x.look(31), 5);
        check.done();
    }
}
