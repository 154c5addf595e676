/** Promise 7. */
public final class LookTest {
    public static void main(String[] args) {
        Check check = new Check();
        StackComputer x = new StackComputer();
        for (int a = 0; a < 256; a += 5) {
            x.word(a, a * a - 700);
        }
        for (int a = 0; a < 256; a++) {
            check.same("look(" + a + ")", x.look(a), a % 5 == 0 ? a * a - 700 : 0);
        }
        for (int a : new int[] {-1, 256, 511, -256, Integer.MIN_VALUE, Integer.MAX_VALUE}) {
            check.refuses("look(" + a + ")", x, IndexOutOfBoundsException.class, () -> x.look(a));
        }
        check.done();
    }
}
