/** A small computer with a stack, whose instructions each take a told number of cycles. */
public final class StackComputer {
    private static final int WORDS = 256;
    private static final int BYTES = 512;
    private static final int MOST_INSTRUCTIONS_A_RUN = 1000;

    private static final int GOING_ON = 0;
    private static final int HALTED = 1;
    private static final int TRAPPED = 2;
    private static final int FAULTED = 3;

    private static final int NOP = 0;
    private static final int PUSH = 16;
    private static final int CONSTANT = 19;
    private static final int LOAD = 21;
    private static final int STORE = 54;
    private static final int POP = 87;
    private static final int DUP = 89;
    private static final int SWAP = 95;
    private static final int ADD = 96;
    private static final int SUB = 100;
    private static final int AND = 126;
    private static final int OR = 128;
    private static final int INCREASE = 132;
    private static final int IF_ZERO = 153;
    private static final int IF_BELOW = 155;
    private static final int IF_LIKE = 159;
    private static final int GOTO = 167;
    private static final int RETURN = 172;
    private static final int CALL = 182;
    private static final int WIDE = 196;
    private static final int HALT = 255;

    private final int[] words;
    private final byte[] bytes;
    private int pc;
    private int sp;
    private int lv;
    private int cpp;
    private int top;
    private int state;
    private int cycles;
    private int instructions;

    public StackComputer() {
        words = new int[WORDS];
        bytes = new byte[BYTES];
        pc = 0;
        sp = 0;
        lv = 0;
        cpp = 0;
        top = 0;
        state = GOING_ON;
        cycles = 0;
        instructions = 0;
    }

    public void word(int a, int v) throws IndexOutOfBoundsException {
        if (!isWord(a)) {
            throw new IndexOutOfBoundsException("no such word");
        }
        words[a] = v;
    }

    public void code(int a, int v) throws IndexOutOfBoundsException {
        if (!areBytes(a, 4)) {
            throw new IndexOutOfBoundsException("no such bytes");
        }
        bytes[a] = (byte) v;
        bytes[a + 1] = (byte) (v >> 8);
        bytes[a + 2] = (byte) (v >> 16);
        bytes[a + 3] = (byte) (v >> 24);
    }

    public void boot(int pc, int sp, int lv, int cpp) {
        this.pc = pc;
        this.sp = sp;
        this.lv = lv;
        this.cpp = cpp;
        top = isWord(sp) ? words[sp] : 0;
        state = GOING_ON;
        cycles = 0;
        instructions = 0;
    }

    public int run(int n) throws IllegalArgumentException, IllegalStateException {
        if (n < 0 || n > MOST_INSTRUCTIONS_A_RUN) {
            throw new IllegalArgumentException("not 0 .. 1000 instructions");
        }
        if (state != GOING_ON) {
            throw new IllegalStateException("the machine has stopped");
        }
        int before = instructions;
        for (int i = 0; i < n && state == GOING_ON; i++) {
            step();
        }
        return instructions - before;
    }

    public int register(int what) throws IllegalArgumentException {
        switch (what) {
            case 0: return pc;
            case 1: return sp;
            case 2: return lv;
            case 3: return cpp;
            case 4: return top;
            case 5: return state;
            case 6: return cycles;
            case 7: return instructions;
            default: throw new IllegalArgumentException("no such register");
        }
    }

    public int look(int a) throws IndexOutOfBoundsException {
        if (!isWord(a)) {
            throw new IndexOutOfBoundsException("no such word");
        }
        return words[a];
    }

    public int sum() {
        int sum = 0;
        for (int a = 0; a < WORDS; a++) {
            sum = 31 * sum + words[a];
        }
        return sum;
    }

    // An instruction looks at every place it needs before it changes anything,
    // so that one that faults has nothing to take back.

    private void step() {
        if (!areBytes(pc, 1)) {
            fault();
            return;
        }
        int opcode = unsignedByte(pc);
        switch (opcode) {
            case NOP: finish(pc + 1, 2); break;
            case ADD:
            case SUB:
            case AND:
            case OR: combine(opcode); break;
            case DUP: push(top, 1, 3); break;
            case POP: pop(); break;
            case SWAP: swap(); break;
            case PUSH: pushByte(); break;
            case LOAD: loadNarrow(); break;
            case STORE: storeNarrow(); break;
            case WIDE: wide(); break;
            case CONSTANT: loadConstant(); break;
            case INCREASE: increase(); break;
            case GOTO: jump(7); break;
            case IF_BELOW: jumpOnTop(top < 0); break;
            case IF_ZERO: jumpOnTop(top == 0); break;
            case IF_LIKE: jumpOnLike(); break;
            case CALL: enter(); break;
            case RETURN: leave(); break;
            case HALT: halt(); break;
            default: trap(); break;
        }
    }

    private void combine(int opcode) {
        int below = sp - 1;
        if (!isWord(below)) {
            fault();
            return;
        }
        top = combined(opcode, words[below], top);
        words[below] = top;
        sp = below;
        finish(pc + 1, 4);
    }

    private static int combined(int opcode, int left, int right) {
        switch (opcode) {
            case ADD: return left + right;
            case SUB: return left - right;
            case AND: return left & right;
            default: return left | right;
        }
    }

    private void push(int value, int length, int cost) {
        int above = sp + 1;
        if (!isWord(above)) {
            fault();
            return;
        }
        sp = above;
        top = value;
        words[above] = value;
        finish(pc + length, cost);
    }

    private void pop() {
        int below = sp - 1;
        if (!isWord(below)) {
            fault();
            return;
        }
        sp = below;
        top = words[below];
        finish(pc + 1, 4);
    }

    private void swap() {
        int below = sp - 1;
        if (!isWord(sp) || !isWord(below)) {
            fault();
            return;
        }
        int second = words[below];
        words[sp] = second;
        words[below] = top;
        top = second;
        finish(pc + 1, 7);
    }

    private void pushByte() {
        if (!areBytes(pc, 2)) {
            fault();
            return;
        }
        push(bytes[pc + 1], 2, 4);
    }

    private void loadNarrow() {
        if (!areBytes(pc, 2)) {
            fault();
            return;
        }
        load(lv + unsignedByte(pc + 1), 2, 6);
    }

    private void storeNarrow() {
        if (!areBytes(pc, 2)) {
            fault();
            return;
        }
        store(lv + unsignedByte(pc + 1), 2, 7);
    }

    private void wide() {
        if (!areBytes(pc, 2)) {
            fault();
            return;
        }
        int opcode = unsignedByte(pc + 1);
        if (opcode != LOAD && opcode != STORE) {
            trap();
            return;
        }
        if (!areBytes(pc, 4)) {
            fault();
            return;
        }
        int place = lv + unsignedPair(pc + 2);
        if (opcode == LOAD) {
            load(place, 4, 10);
        } else {
            store(place, 4, 11);
        }
    }

    private void loadConstant() {
        if (!areBytes(pc, 3)) {
            fault();
            return;
        }
        load(cpp + unsignedPair(pc + 1), 3, 8);
    }

    private void load(int place, int length, int cost) {
        if (!isWord(place)) {
            fault();
            return;
        }
        push(words[place], length, cost);
    }

    private void store(int place, int length, int cost) {
        int below = sp - 1;
        if (!isWord(place) || !isWord(below)) {
            fault();
            return;
        }
        words[place] = top;
        sp = below;
        // Read behind the write: the two places may be the same one.
        top = words[below];
        finish(pc + length, cost);
    }

    private void increase() {
        if (!areBytes(pc, 3)) {
            fault();
            return;
        }
        int place = lv + unsignedByte(pc + 1);
        if (!isWord(place)) {
            fault();
            return;
        }
        words[place] += bytes[pc + 2];
        finish(pc + 3, 7);
    }

    private void jump(int cost) {
        if (!areBytes(pc, 3)) {
            fault();
            return;
        }
        finish(pc + signedPair(pc + 1), cost);
    }

    private void jumpOnTop(boolean jumps) {
        int below = sp - 1;
        if (!isWord(below)) {
            fault();
            return;
        }
        branch(jumps, below, 8);
    }

    private void jumpOnLike() {
        int second = sp - 1;
        int third = sp - 2;
        if (!isWord(second) || !isWord(third)) {
            fault();
            return;
        }
        branch(top == words[second], third, 10);
    }

    /** Takes the stack down to a word that is there; a jump costs three cycles more. */
    private void branch(boolean jumps, int newSp, int cost) {
        // The operands count only for a jump: without one they may be missing.
        if (jumps && !areBytes(pc, 3)) {
            fault();
            return;
        }
        sp = newSp;
        top = words[newSp];
        if (jumps) {
            jump(cost + 3);
        } else {
            finish(pc + 3, cost);
        }
    }

    private void enter() {
        if (!areBytes(pc, 3)) {
            fault();
            return;
        }
        int place = cpp + unsignedPair(pc + 1);
        if (!isWord(place) || !areBytes(words[place], 4)) {
            fault();
            return;
        }
        int method = words[place];
        int frame = sp - unsignedPair(method) + 1;
        int link = sp + unsignedPair(method + 2) + 1;
        if (!isWord(frame) || !isWord(link) || !isWord(link + 1)) {
            fault();
            return;
        }
        // The frame's word first: the link may lie on it and then stays.
        words[frame] = link;
        words[link] = pc + 3;
        words[link + 1] = lv;
        sp = link + 1;
        lv = frame;
        top = frame;
        finish(method + 4, 23);
    }

    private void leave() {
        if (!isWord(lv)) {
            fault();
            return;
        }
        int link = words[lv];
        if (!isWord(link) || !isWord(link + 1)) {
            fault();
            return;
        }
        int next = words[link];
        int callerLv = words[link + 1];
        // Written behind both reads: the link may lie on this word.
        words[lv] = top;
        sp = lv;
        lv = callerLv;
        finish(next, 9);
    }

    private void halt() {
        state = HALTED;
        finish(pc, 2);
    }

    private void trap() {
        state = TRAPPED;
    }

    private void fault() {
        state = FAULTED;
    }

    private void finish(int next, int cost) {
        pc = next;
        cycles += cost;
        instructions++;
    }

    private static boolean isWord(int a) {
        return a >= 0 && a < WORDS;
    }

    private static boolean areBytes(int first, int count) {
        return first >= 0 && first <= BYTES - count;
    }

    private int unsignedByte(int a) {
        return bytes[a] & 0xFF;
    }

    private int unsignedPair(int a) {
        return unsignedByte(a) << 8 | unsignedByte(a + 1);
    }

    private int signedPair(int a) {
        return bytes[a] << 8 | unsignedByte(a + 1);
    }
}
