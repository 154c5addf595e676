/** Promise 2. */
public final class WordTest {
    public static void main(String[] args) {
        Check check = new Check();
        setsOneWord(check);
        takesEveryPlaceThatIsThere(check);
        takesEveryValue(check);
        leavesRegistersAlone(check);
        refusesWhatIsNotThere(check);
        check.done();
    }

    private static void setsOneWord(Check check) {
        Bench b = new Bench();
        b.words(0, 11, 1, -1, 100, Integer.MIN_VALUE, 254, 3, 255, Integer.MAX_VALUE);
        b.checkWords(check, "setting words");
        b.words(100, 8, 255, 0);
        b.checkWords(check, "setting words again");
    }

    private static void takesEveryPlaceThatIsThere(Check check) {
        for (int a = 0; a < 256; a++) {
            Bench b = new Bench().words(a, 7919 - a);
            b.checkWords(check, "word(" + a + ", " + (7919 - a) + ")");
            check.registers("word(" + a + ", " + (7919 - a) + ")", b.x, 0, 0, 0, 0, 0, 0, 0, 0);
        }
    }

    private static void takesEveryValue(Check check) {
        for (int v : new int[] {0, 1, -1, 127, 128, 255, 256, -128, -129, 32767, 32768, 65535, 65536, Integer.MAX_VALUE,
            Integer.MIN_VALUE}) {
            StackComputer x = new StackComputer();
            x.word(9, v);
            check.same("look at " + v, x.look(9), v);
            x.boot(0, 9, 0, 0);
            check.same("TOP at " + v, x.register(4), v);
        }
    }

    private static void leavesRegistersAlone(Check check) {
        Bench b = new Bench().words(30, 4).code(0, 89, 255).boot(0, 30, 20, 10);
        b.words(30, 5);
        check.registers("word at SP", b.x, 0, 30, 20, 10, 4, 0, 0, 0);
        b.x.run(1);
        b.expect(31, 4).checkWords(check, "DUP behind word at SP");
        b.x.run(1);
        b.words(0, 9);
        check.registers("word on a halted machine", b.x, 1, 31, 20, 10, 4, 1, 5, 2);
        b.checkWords(check, "word on a halted machine");
    }

    private static void refusesWhatIsNotThere(Check check) {
        Bench b = new Bench().words(0, 1, 255, 2);
        for (int a : new int[] {-1, 256, 257, 511, -256, Integer.MIN_VALUE, Integer.MAX_VALUE}) {
            check.refuses("word(" + a + ", 7)", b.x, IndexOutOfBoundsException.class, () -> b.x.word(a, 7));
        }
        b.checkWords(check, "refused words");
    }
}
