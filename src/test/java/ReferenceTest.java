/** Many made-up programs, always the same ones, done by the program and by the reference. */
public final class ReferenceTest {
    private static final int[] OPCODES = {0, 96, 100, 126, 128, 89, 87, 95, 16, 21, 54, 196, 19, 132, 167, 155, 153,
        159, 182, 172, 255};
    private static final int[] EDGES = {-2, -1, 0, 1, 2, 253, 254, 255, 256, 257, 258, Integer.MIN_VALUE,
        Integer.MAX_VALUE};
    private static final int CONSTANTS = 150;
    private static final int METHODS = 256;
    private static final int PROGRAMS = 3000;
    private static final Check CHECK = new Check();
    private static long seed = 20261115;

    private static int below(int bound) {
        seed = seed * 6364136223846793005L + 1442695040888963407L;
        return (int) ((seed >>> 33) % bound);
    }

    public static void main(String[] args) {
        int[] doneOf = new int[256];
        int[] stops = new int[4];
        for (int i = 0; i < PROGRAMS; i++) {
            oneProgram(i, doneOf, stops);
        }
        for (int opcode : OPCODES) {
            CHECK.same("enough of opcode " + opcode + " done", doneOf[opcode] > 100 ? 1 : 0, 1);
        }
        for (int stop = 1; stop < 4; stop++) {
            CHECK.same("enough stops of kind " + stop, stops[stop] > 100 ? 1 : 0, 1);
        }
        CHECK.done();
    }

    private static void oneProgram(int number, int[] doneOf, int[] stops) {
        StackComputer x = new StackComputer();
        Reference r = new Reference();
        fillWords(x, r);
        fillCode(x, r);
        r.doneOf = doneOf;
        // 512 calls are all that an object is used for: 64 + 128 + 29 times 11.
        for (int i = 0; i < 29; i++) {
            if (i == 0 || r.state != 0) {
                bootSomewhere(x, r);
            }
            int opcode = r.pc >= 0 && r.pc < 512 ? r.bytes[r.pc] : -1;
            int n = below(4) == 0 ? below(1001) : 1;
            String what = "program " + number + ", run(" + n + ") at " + r.pc + " of " + opcode;
            int due = r.run(n);
            CHECK.same(what, x.run(n), due);
            CHECK.same(what + ": registers", Check.registers(x), r.registers());
            CHECK.same(what + ": sum", x.sum(), r.sum());
            stops[r.state]++;
        }
    }

    private static void fillWords(StackComputer x, Reference r) {
        for (int i = 0; i < 64; i++) {
            // Half of them stand close together, where CPP often points.
            int a = below(2) == 0 ? below(256) : CONSTANTS + below(50);
            int v = oneWord();
            x.word(a, v);
            r.words[a] = v;
        }
    }

    private static int oneWord() {
        switch (below(4)) {
            case 0: return below(520) - 4;
            case 1: return below(5) - 2;
            case 2: return METHODS + 8 * below(32);
            default: return below(256);
        }
    }

    private static void fillCode(StackComputer x, Reference r) {
        int[] code = new int[512];
        int end = 0;
        while (end < 512) {
            end = putInstruction(code, end);
        }
        for (int a = METHODS; a < 512; a += 8) {
            put(code, a, 0);
            put(code, a + 1, below(5));
            put(code, a + 2, 0);
            put(code, a + 3, below(5));
        }
        for (int a = 0; a < 512; a += 4) {
            int v = code[a] | code[a + 1] << 8 | code[a + 2] << 16 | code[a + 3] << 24;
            x.code(a, v);
            r.code(a, v);
        }
    }

    private static int putInstruction(int[] code, int at) {
        int opcode = below(60) == 0 ? below(256) : OPCODES[below(OPCODES.length)];
        put(code, at, opcode);
        if (opcode == 196) {
            put(code, at + 1, below(10) == 0 ? below(256) : below(2) == 0 ? 21 : 54);
            return putPair(code, at + 2, false);
        }
        boolean jumps = opcode == 167 || opcode == 155 || opcode == 153 || opcode == 159;
        if (jumps || opcode == 182 || opcode == 19) {
            return putPair(code, at + 1, jumps);
        }
        if (opcode == 16 || opcode == 21 || opcode == 54 || opcode == 132) {
            put(code, at + 1, below(3) == 0 ? below(256) : below(10));
            put(code, at + 2, below(256));
            return opcode == 132 ? at + 3 : at + 2;
        }
        return at + 1;
    }

    private static int putPair(int[] code, int at, boolean signed) {
        boolean back = signed && below(2) == 0;
        put(code, at, back ? 255 : below(20) == 0 ? below(256) : 0);
        put(code, at + 1, back ? 255 - below(100) : below(60));
        return at + 2;
    }

    private static void put(int[] code, int at, int v) {
        if (at < 512) {
            code[at] = v;
        }
    }

    private static void bootSomewhere(StackComputer x, Reference r) {
        int pc = below(40) == 0 ? 505 + below(9) : below(512);
        int sp = place();
        int lv = below(4) == 0 ? sp - below(4) : place();
        int cpp = below(2) == 0 ? place() : CONSTANTS;
        x.boot(pc, sp, lv, cpp);
        r.boot(pc, sp, lv, cpp);
    }

    private static int place() {
        return below(6) == 0 ? EDGES[below(EDGES.length)] : below(256);
    }
}
