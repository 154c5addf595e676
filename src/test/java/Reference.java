import java.util.Arrays;

/**
 * The document's machine told a second time: each instruction does its steps one after another,
 * as the document words them, and is taken back as a whole if it traps or faults.
 */
final class Reference {
    private static final class Stop extends RuntimeException {
        private static final long serialVersionUID = 1L;
        final int state;

        Stop(int state) {
            super(null, null, false, false);
            this.state = state;
        }
    }

    int[] words = new int[256];
    final int[] bytes = new int[512];
    int pc;
    int sp;
    int lv;
    int cpp;
    int top;
    int state;
    int cycles;
    int instructions;
    /** How often each opcode was done: a test looks whether it has seen enough of each. */
    int[] doneOf = new int[256];
    private int at;

    void code(int a, int v) {
        for (int i = 0; i < 4; i++) {
            bytes[a + i] = v >>> 8 * i & 255;
        }
    }

    void boot(int pc, int sp, int lv, int cpp) {
        this.pc = pc;
        this.sp = sp;
        this.lv = lv;
        this.cpp = cpp;
        top = sp >= 0 && sp <= 255 ? words[sp] : 0;
        state = 0;
        cycles = 0;
        instructions = 0;
    }

    int run(int n) {
        int done = 0;
        while (done < n && state == 0) {
            int[] wordsBefore = words.clone();
            int[] before = {pc, sp, lv, cpp, top};
            int p = pc;
            try {
                cycles += instruction();
                doneOf[bytes[p]]++;
                instructions++;
                done++;
            } catch (Stop stop) {
                words = wordsBefore;
                pc = before[0];
                sp = before[1];
                lv = before[2];
                cpp = before[3];
                top = before[4];
                state = stop.state;
            }
        }
        return done;
    }

    String registers() {
        return Arrays.toString(new int[] {pc, sp, lv, cpp, top, state, cycles, instructions});
    }

    int sum() {
        int sum = 0;
        for (int w : words) {
            sum = sum * 31 + w;
        }
        return sum;
    }

    private int get(int a) {
        if (a < 0 || a > 255) {
            throw new Stop(3);
        }
        return words[a];
    }

    private void set(int a, int v) {
        get(a);
        words[a] = v;
    }

    private int byteAt(int a) {
        if (a < 0 || a > 511) {
            throw new Stop(3);
        }
        return bytes[a];
    }

    private int u() {
        return byteAt(at++);
    }

    private int s() {
        int u = u();
        return u > 127 ? u - 256 : u;
    }

    private int uu() {
        int high = u();
        return high * 256 + u();
    }

    private int ss() {
        int uu = uu();
        return uu > 32767 ? uu - 65536 : uu;
    }

    private int instruction() {
        int p = pc;
        at = p;
        int opcode = u();
        switch (opcode) {
            case 0: pc = p + 1; return 2;
            case 96: sp--; top = get(sp) + top; set(sp, top); pc = p + 1; return 4;
            case 100: sp--; top = get(sp) - top; set(sp, top); pc = p + 1; return 4;
            case 126: sp--; top = get(sp) & top; set(sp, top); pc = p + 1; return 4;
            case 128: sp--; top = get(sp) | top; set(sp, top); pc = p + 1; return 4;
            case 89: sp++; set(sp, top); pc = p + 1; return 3;
            case 87: sp--; top = get(sp); pc = p + 1; return 4;
            case 95: {
                int was = get(sp - 1);
                set(sp, was);
                set(sp - 1, top);
                top = was;
                pc = p + 1;
                return 7;
            }
            case 16: top = s(); sp++; set(sp, top); pc = p + 2; return 4;
            case 21: return load(lv + u(), 6);
            case 54: return store(lv + u(), 7);
            case 19: return load(cpp + uu(), 8);
            case 196: {
                int behind = u();
                if (behind == 21) {
                    return load(lv + uu(), 10);
                }
                if (behind == 54) {
                    return store(lv + uu(), 11);
                }
                throw new Stop(2);
            }
            case 132: {
                int a = lv + u();
                set(a, get(a) + s());
                pc = p + 3;
                return 7;
            }
            case 255: state = 1; return 2;
            default: return flow(p, opcode);
        }
    }

    private int load(int a, int cost) {
        int read = get(a);
        sp++;
        top = read;
        set(sp, top);
        pc = at;
        return cost;
    }

    private int store(int a, int cost) {
        set(a, top);
        sp--;
        top = get(sp);
        pc = at;
        return cost;
    }

    private int flow(int p, int opcode) {
        int was = top;
        switch (opcode) {
            case 167: pc = p + ss(); return 7;
            case 155: sp--; top = get(sp); return branch(p, was < 0, 11, 8);
            case 153: sp--; top = get(sp); return branch(p, was == 0, 11, 8);
            case 159: sp -= 2; top = get(sp); return branch(p, was == get(sp + 1), 13, 10);
            case 182: return call(p);
            case 172: {
                int b = get(lv);
                sp = lv;
                pc = get(b);
                lv = get(b + 1);
                set(sp, top);
                return 9;
            }
            default: throw new Stop(2);
        }
    }

    private int branch(int p, boolean jumps, int costOfJump, int cost) {
        pc = jumps ? p + ss() : p + 3;
        return jumps ? costOfJump : cost;
    }

    private int call(int p) {
        int m = get(cpp + uu());
        int n = byteAt(m) * 256 + byteAt(m + 1);
        int k = byteAt(m + 2) * 256 + byteAt(m + 3);
        int a = sp - n + 1;
        int link = sp + k + 1;
        set(a, link);
        sp = link;
        set(sp, p + 3);
        sp++;
        set(sp, lv);
        lv = a;
        top = a;
        pc = m + 4;
        return 23;
    }
}
