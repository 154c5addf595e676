/** Promise 2. */
public final class WordTest {
    public static void main(String[] args) {
        Check check = new Check();
        setsOneWord(check);
        leavesRegistersAlone(check);
        refusesWhatIsNotThere(check);
        check.done();
    }

    private static void setsOneWord(Check check) {
        Bench b = new Bench();
        b.words(0, 11, 1, -1, 100, Integer.MIN_VALUE, 254, 3, 255, Integer.MAX_VALUE);
        b.checkWords(check, "setting words");
        b.words(100, 8, 255, 0);
        b.checkWords(check, "setting words again");
    }

    private static void leavesRegistersAlone(Check check) {
        Bench b = new Bench().words(30, 4).code(0, 89, 255).boot(0, 30, 20, 10);
        b.words(30, 5);
        check.registers("word at SP", b.x, 0, 30, 20, 10, 4, 0, 0, 0);
        b.x.run(1);
        b.expect(31, 4).checkWords(check, "DUP behind word at SP");
        b.x.run(1);
        b.words(0, 9);
        check.registers("word on a halted machine", b.x, 1, 31, 20, 10, 4, 1, 5, 2);
        b.checkWords(check, "word on a halted machine");
    }

    private static void refusesWhatIsNotThere(Check check) {
        Bench b = new Bench().words(0, 1, 255, 2);
        for (int a : new int[] {-1, 256, 257, 511, -256, Integer.MIN_VALUE, Integer.MAX_VALUE}) {
            check.refuses("word(" + a + ", 7)", b.x, IndexOutOfBoundsException.class, () -> b.x.word(a, 7));
        }
        b.checkWords(check, "refused words");
    }
}
