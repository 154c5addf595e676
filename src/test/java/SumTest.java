/** Promise 8. */
public final class SumTest {
    public static void main(String[] args) {
        Check check = new Check();
        StackComputer x = new StackComputer();
        check.same("sum of zeros", x.sum(), 0);
        x.word(255, 5);
        check.same("sum with the last word", x.sum(), 5);
        x.word(254, 2);
        check.same("sum with the last two words", x.sum(), 67);
        x.word(253, -1);
        check.same("sum with the last three words", x.sum(), 67 - 961);
        x.word(250, Integer.MAX_VALUE);
        // 31 to the fifth is odd, so 2 to the 31st times it wraps to 2 to the 31st.
        check.same("sum that wraps", x.sum(), 67 - 961 + Integer.MIN_VALUE - 28629151);
        withTheFirstWord(check);
        leavesAllAlone(check);
        check.done();
    }

    private static void withTheFirstWord(Check check) {
        StackComputer x = new StackComputer();
        x.word(0, 1);
        int due = 1;
        for (int i = 0; i < 255; i++) {
            due *= 31;
        }
        check.same("sum with the first word", x.sum(), due);
    }

    private static void leavesAllAlone(Check check) {
        Bench b = new Bench().words(3, 33, 4, 44).boot(9, 3, 2, 1);
        b.checkWords(check, "nothing");
        b.checkWords(check, "sum");
        check.registers("sum", b.x, 9, 3, 2, 1, 33, 0, 0, 0);
    }
}
