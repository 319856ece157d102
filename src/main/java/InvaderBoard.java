/**
 * An arcade board: an 8080 processor counted in states, memory with its mirrors and a screen of
 * one bit a dot, a shift register at ports, two interrupts a frame, inputs, sound latches.
 */
public final class InvaderBoard {

    private static final int MOST_STATES_OF_A_RUN = 40000;

    private final Memory store;
    private final Ports ports;
    private final Processor processor;
    private final Frames frames;

    public InvaderBoard() {
        store = new Memory();
        ports = new Ports();
        processor = new Processor(store, ports);
        frames = new Frames();
    }

    public int load(int address, int word, int n) throws IllegalArgumentException {
        if (n < 1 || n > 4) {
            throw new IllegalArgumentException("a word has 1 to 4 bytes to load");
        }
        if (address < 0 || address > Memory.ROM_SIZE - n) {
            throw new IllegalArgumentException("the bytes are not all inside the ROM");
        }
        for (int i = 0; i < n; i++) {
            store.burn(address + i, word >> 8 * (n - 1 - i));
        }
        return address + n;
    }

    public void reset() {
        resetParts();
        frames.beginAnew();
    }

    public void input(int port, int bits) throws IllegalArgumentException {
        if (port < 0 || port >= Ports.INPUTS) {
            throw new IllegalArgumentException("no such input port");
        }
        ports.setInput(port, bits);
    }

    public int step() {
        return advance(1);
    }

    public int run(int states) throws IllegalArgumentException {
        if (states < 1 || states > MOST_STATES_OF_A_RUN) {
            throw new IllegalArgumentException("a run has 1 to 40000 states");
        }
        int gone = 0;
        // Each turn takes at least one state, so that the counter never ends the loop too early.
        for (int turn = 0; turn < MOST_STATES_OF_A_RUN && gone < states; turn++) {
            gone += advance(states - gone);
        }
        return gone;
    }

    public int register(int r) throws IllegalArgumentException {
        if (r < 0 || r > 11) {
            throw new IllegalArgumentException("no such register");
        }
        return processor.contentOf(r);
    }

    public int memory(int address) {
        return store.read(address);
    }

    public int poke(int address, int value) {
        store.write(address, value);
        return store.read(address);
    }

    public int dot(int x, int y) throws IndexOutOfBoundsException {
        if (x < 0 || x >= Memory.WIDTH || y < 0 || y >= Memory.HEIGHT) {
            throw new IndexOutOfBoundsException("no such dot");
        }
        return store.dotsInColumn(x, y, y + 1);
    }

    public int lit(int x, int y, int w, int h) {
        int left = onScreen(x, Memory.WIDTH);
        int right = onScreen((long) x + w, Memory.WIDTH);
        int top = onScreen(y, Memory.HEIGHT);
        int bottom = onScreen((long) y + h, Memory.HEIGHT);
        int sum = 0;
        for (int column = left; column < right; column++) {
            sum += store.dotsInColumn(column, top, bottom);
        }
        return sum;
    }

    public int state(int what) throws IllegalArgumentException {
        switch (what) {
            case 0: return ports.latchOf(0);
            case 1: return ports.latchOf(1);
            case 2: return frames.gone;
            case 3: return frames.ended;
            case 4: return frames.waiting;
            case 5: return ports.framesUnfed;
            case 6: return ports.shifted();
            default: throw new IllegalArgumentException("no such part of the state");
        }
    }

    public int sounds(int bit) throws IllegalArgumentException {
        if (bit < 0 || bit >= Ports.SOUNDS) {
            throw new IllegalArgumentException("no such sound");
        }
        return ports.risesOf(bit);
    }

    /** One instruction, one request taken, or a wait of at most so many states: its states. */
    private int advance(int longestWait) {
        int states;
        if (processor.enabled && frames.waiting != 0) {
            states = processor.takeRequest(frames.takeWaiting());
        } else if (processor.halted) {
            // A wait in one piece is as waits state by state, if it ends where a request may come.
            states = Math.min(longestWait, frames.untilRequest());
        } else {
            states = processor.execute();
        }
        if (frames.pass(states) && ports.endFrameUnfed()) {
            resetParts();
        }
        return states;
    }

    /** What a reset of the watchdog does; the states of the frame stay. */
    private void resetParts() {
        processor.clear();
        ports.clear();
        frames.dropWaiting();
    }

    private static int onScreen(long edge, int size) {
        return (int) Math.max(0L, Math.min(edge, (long) size));
    }

    /** ROM, work RAM and the screen's RAM, with their mirrors. */
    private static final class Memory {
        static final int ROM_SIZE = 2048;
        static final int WIDTH = 224;
        static final int HEIGHT = 256;
        // The bit of an address that leads to RAM, in every mirror.
        private static final int RAM_BIT = 8192;
        private static final int RAM_SIZE = 8192;
        private static final int SCREEN_START = 9216;
        private static final int COLUMN_BYTES = 32;

        private final int[] rom = new int[ROM_SIZE];
        private final int[] ram = new int[RAM_SIZE];

        int read(int address) {
            if ((address & RAM_BIT) != 0) {
                return ram[address & RAM_SIZE - 1];
            }
            // The ROM has no mirrors: both upper bits must be 0 too.
            int whole = address & 65535;
            return whole < ROM_SIZE ? rom[whole] : 0;
        }

        void write(int address, int value) {
            if ((address & RAM_BIT) != 0) {
                ram[address & RAM_SIZE - 1] = value & 255;
            }
        }

        /** The word whose lower half is at an address. */
        int readWord(int address) {
            return read(address) | read(address + 1) << 8;
        }

        void writeWord(int address, int word) {
            write(address, word);
            write(address + 1, word >> 8);
        }

        void burn(int address, int value) {
            if (address >= 0 && address < ROM_SIZE) {
                rom[address] = value & 255;
            }
        }

        /** How many dots of a column are 1, from row top on to before row bottom. */
        int dotsInColumn(int x, int top, int bottom) {
            // The column's first byte has its lowest dots: rows are counted from below here.
            int low = HEIGHT - bottom;
            int high = HEIGHT - top;
            int sum = 0;
            for (int i = 0; i < COLUMN_BYTES; i++) {
                int from = Math.max(low - 8 * i, 0);
                int to = Math.min(high - 8 * i, 8);
                if (from < to) {
                    int mask = (255 << from) & (255 >> 8 - to);
                    sum += Integer.bitCount(read(SCREEN_START + COLUMN_BYTES * x + i) & mask);
                }
            }
            return sum;
        }
    }

    /** What IN and OUT reach: inputs, the shifter, the sound latches and the watchdog. */
    private static final class Ports {
        static final int INPUTS = 3;
        static final int SOUNDS = 16;
        private static final int MOST_FRAMES_UNFED = 16;

        private final int[] inputs = new int[INPUTS];
        private final int[] latches = new int[2];
        private final int[] rises = new int[SOUNDS];
        private int shifter;
        private int offset;
        private int framesUnfed;

        void clear() {
            shifter = 0;
            offset = 0;
            latches[0] = 0;
            latches[1] = 0;
            framesUnfed = 0;
        }

        void setInput(int port, int bits) {
            if (port >= 0 && port < INPUTS) {
                inputs[port] = bits & 255;
            }
        }

        int in(int port) {
            if (port >= 0 && port < INPUTS) {
                return inputs[port];
            }
            return port == 3 ? shifted() : 0;
        }

        void out(int port, int value) {
            switch (port) {
                case 2: offset = value & 7; break;
                case 3: setLatch(0, value); break;
                case 4: shifter = value << 8 | shifter >> 8; break;
                case 5: setLatch(1, value); break;
                case 6: framesUnfed = 0; break;
                default: break;
            }
        }

        int shifted() {
            return shifter << offset >> 8 & 255;
        }

        int latchOf(int which) {
            return latches[which & 1];
        }

        int risesOf(int bit) {
            return rises[bit & SOUNDS - 1];
        }

        /** Whether the frame that ends is one too many for the watchdog. */
        boolean endFrameUnfed() {
            framesUnfed++;
            return framesUnfed >= MOST_FRAMES_UNFED;
        }

        private void setLatch(int which, int value) {
            int risen = value & ~latches[which & 1];
            for (int bit = 0; bit < 8; bit++) {
                rises[8 * (which & 1) + bit] += risen >> bit & 1;
            }
            latches[which & 1] = value;
        }
    }

    /** The count of states in frames, and the request that waits. */
    private static final class Frames {
        private static final int MIDDLE = 16667;
        private static final int END = 33333;

        private int gone;
        private int ended;
        private int waiting;

        void beginAnew() {
            gone = 0;
        }

        void dropWaiting() {
            waiting = 0;
        }

        int takeWaiting() {
            int taken = waiting;
            waiting = 0;
            return taken;
        }

        int untilRequest() {
            return (gone < MIDDLE ? MIDDLE : END) - gone;
        }

        /** Lets states go by: whether a frame ended. */
        boolean pass(int states) {
            boolean early = gone < MIDDLE;
            gone += states;
            if (early && gone >= MIDDLE) {
                waiting = 1;
            }
            if (gone < END) {
                return false;
            }
            gone -= END;
            ended++;
            waiting = 2;
            return true;
        }
    }

    /** The 8080. */
    private static final class Processor {
        private static final int B = 0;
        private static final int D = 2;
        private static final int H = 4;
        private static final int M = 6;
        private static final int A = 7;

        private static final int SIGN = 128;
        private static final int ZERO = 64;
        private static final int AUXILIARY = 16;
        private static final int PARITY = 4;
        private static final int ALWAYS = 2;
        private static final int CARRY = 1;
        private static final int FLAGS = SIGN | ZERO | AUXILIARY | PARITY | CARRY;

        private static final int RST_STATES = 11;
        private static final int STATES_IF_TAKEN = 6;

        // A row has 16 codes; conditional CALL and RET stand as not taken.
        private static final int[] STATES = {
            4, 10, 7, 5, 5, 5, 7, 4, 4, 10, 7, 5, 5, 5, 7, 4,
            4, 10, 7, 5, 5, 5, 7, 4, 4, 10, 7, 5, 5, 5, 7, 4,
            4, 10, 16, 5, 5, 5, 7, 4, 4, 10, 16, 5, 5, 5, 7, 4,
            4, 10, 13, 5, 10, 10, 10, 4, 4, 10, 13, 5, 5, 5, 7, 4,
            5, 5, 5, 5, 5, 5, 7, 5, 5, 5, 5, 5, 5, 5, 7, 5,
            5, 5, 5, 5, 5, 5, 7, 5, 5, 5, 5, 5, 5, 5, 7, 5,
            5, 5, 5, 5, 5, 5, 7, 5, 5, 5, 5, 5, 5, 5, 7, 5,
            7, 7, 7, 7, 7, 7, 7, 7, 5, 5, 5, 5, 5, 5, 7, 5,
            4, 4, 4, 4, 4, 4, 7, 4, 4, 4, 4, 4, 4, 4, 7, 4,
            4, 4, 4, 4, 4, 4, 7, 4, 4, 4, 4, 4, 4, 4, 7, 4,
            4, 4, 4, 4, 4, 4, 7, 4, 4, 4, 4, 4, 4, 4, 7, 4,
            4, 4, 4, 4, 4, 4, 7, 4, 4, 4, 4, 4, 4, 4, 7, 4,
            5, 10, 10, 10, 11, 11, 7, 11, 5, 10, 10, 10, 11, 17, 7, 11,
            5, 10, 10, 10, 11, 11, 7, 11, 5, 10, 10, 10, 11, 17, 7, 11,
            5, 10, 10, 18, 11, 11, 7, 11, 5, 5, 10, 4, 11, 17, 7, 11,
            5, 10, 10, 4, 11, 11, 7, 11, 5, 5, 10, 4, 11, 17, 7, 11
        };

        private final Memory store;
        private final Ports ports;
        // As codes number them; place 6, which means memory there, stays empty.
        private final int[] registers = new int[8];
        private int flags = ALWAYS;
        private int sp;
        private int pc;
        private boolean enabled;
        // An EI that found interrupts disabled was the last instruction.
        private boolean enabling;
        private boolean halted;

        Processor(Memory store, Ports ports) {
            this.store = store;
            this.ports = ports;
        }

        void clear() {
            for (int r = 0; r < registers.length; r++) {
                registers[r] = 0;
            }
            flags = ALWAYS;
            sp = 0;
            pc = 0;
            enabled = false;
            enabling = false;
            halted = false;
        }

        int contentOf(int r) {
            switch (r) {
                case 6: return flags;
                case 8: return sp;
                case 9: return pc;
                case 10: return enabled ? 1 : 0;
                case 11: return halted ? 1 : 0;
                default: return registers[r & 7];
            }
        }

        int takeRequest(int number) {
            enabled = false;
            halted = false;
            push(pc);
            pc = 8 * number;
            return RST_STATES;
        }

        int execute() {
            boolean due = enabling;
            int code = fetch();
            int states = STATES[code & 255];
            switch (code >> 6) {
                case 0: executeLow(code); break;
                case 1: executeMove(code); break;
                case 2: calculate(code >> 3, operand(code)); break;
                default: states += executeHigh(code); break;
            }
            // Only DI in between has taken the enabling back.
            if (due && enabling) {
                enabled = true;
                enabling = false;
            }
            return states;
        }

        /** Codes 00 to 3F of base 16. */
        private void executeLow(int code) {
            int pair = code >> 4 & 3;
            int place = code >> 3 & 7;
            boolean second = (code & 8) != 0;
            switch (code & 7) {
                case 1:
                    if (second) {
                        addToHl(pairOrSp(pair));
                    } else {
                        setPairOrSp(pair, fetchWord());
                    }
                    break;
                case 2: loadOrStore(place); break;
                case 3: setPairOrSp(pair, pairOrSp(pair) + (second ? -1 : 1)); break;
                case 4: setOperand(place, increment(operand(place))); break;
                case 5: setOperand(place, decrement(operand(place))); break;
                case 6: setOperand(place, fetch()); break;
                case 7: changeAccumulator(place); break;
                default: break;
            }
        }

        /** Codes 40 to 7F: MOV, and HLT in the place of a MOV from memory to memory. */
        private void executeMove(int code) {
            int from = code & 7;
            int to = code >> 3 & 7;
            if (from == M && to == M) {
                halted = true;
            } else {
                setOperand(to, operand(from));
            }
        }

        /** Codes C0 to FF: the states beyond those of the table. */
        private int executeHigh(int code) {
            int place = code >> 3 & 7;
            switch (code & 7) {
                case 0: return returnIf(holds(place));
                case 1: popOrReturn(place); return 0;
                case 2: jumpIf(holds(place)); return 0;
                case 3: executeSingle(place); return 0;
                case 4: return callIf(holds(place));
                case 5:
                    if ((place & 1) != 0) {
                        callIf(true);
                    } else {
                        push(place == 6 ? statusWord() : pairAt(place));
                    }
                    return 0;
                case 6: calculate(place, fetch()); return 0;
                default:
                    push(pc);
                    pc = 8 * place;
                    return 0;
            }
        }

        private void loadOrStore(int place) {
            switch (place) {
                case 0: store.write(pairAt(B), registers[A]); break;
                case 1: registers[A] = store.read(pairAt(B)); break;
                case 2: store.write(pairAt(D), registers[A]); break;
                case 3: registers[A] = store.read(pairAt(D)); break;
                case 4: store.writeWord(fetchWord(), pairAt(H)); break;
                case 5: setPairAt(H, store.readWord(fetchWord())); break;
                case 6: store.write(fetchWord(), registers[A]); break;
                default: registers[A] = store.read(fetchWord()); break;
            }
        }

        private void changeAccumulator(int place) {
            int a = registers[A];
            int carry = flags & CARRY;
            switch (place) {
                case 0: setRotated(a << 1 | a >> 7, a >> 7); break;
                case 1: setRotated(a >> 1 | a << 7, a); break;
                case 2: setRotated(a << 1 | carry, a >> 7); break;
                case 3: setRotated(a >> 1 | carry << 7, a); break;
                case 4: adjustDecimal(); break;
                case 5: registers[A] = a ^ 255; break;
                case 6: flags |= CARRY; break;
                default: flags ^= CARRY; break;
            }
        }

        private void setRotated(int a, int carry) {
            registers[A] = a & 255;
            setCarry(carry);
        }

        private void setCarry(int carry) {
            flags = flags & ~CARRY | carry & CARRY;
        }

        private void adjustDecimal() {
            int a = registers[A];
            int low = a & 15;
            int more = low > 9 || (flags & AUXILIARY) != 0 ? 6 : 0;
            int others = low + more > 15 ? AUXILIARY : 0;
            if (a > 153 || (flags & CARRY) != 0) {
                more += 96;
                others |= CARRY;
            }
            registers[A] = a + more & 255;
            flags = flagsOf(registers[A]) | others;
        }

        private void executeSingle(int place) {
            switch (place) {
                case 2: ports.out(fetch(), registers[A]); break;
                case 3: registers[A] = ports.in(fetch()); break;
                case 4: setPairAt(H, exchangeTop(pairAt(H))); break;
                case 5: exchangePairs(); break;
                case 6:
                    enabled = false;
                    enabling = false;
                    break;
                case 7: enabling = !enabled; break;
                default: pc = fetchWord(); break;
            }
        }

        /** Puts a word on the stack's top: the word that was there. */
        private int exchangeTop(int word) {
            int old = store.readWord(sp);
            store.writeWord(sp, word);
            return old;
        }

        private void exchangePairs() {
            int word = pairAt(D);
            setPairAt(D, pairAt(H));
            setPairAt(H, word);
        }

        private void popOrReturn(int place) {
            switch (place) {
                case 1: pc = pop(); break;
                case 3: pc = pop(); break;
                case 5: pc = pairAt(H); break;
                case 6: setStatusWord(pop()); break;
                case 7: sp = pairAt(H); break;
                default: setPairAt(place, pop()); break;
            }
        }

        private int statusWord() {
            return registers[A] << 8 | flags;
        }

        private void setStatusWord(int word) {
            registers[A] = word >> 8 & 255;
            flags = word & FLAGS | ALWAYS;
        }

        private int returnIf(boolean taken) {
            if (!taken) {
                return 0;
            }
            pc = pop();
            return STATES_IF_TAKEN;
        }

        private void jumpIf(boolean taken) {
            int target = fetchWord();
            if (taken) {
                pc = target;
            }
        }

        private int callIf(boolean taken) {
            int target = fetchWord();
            if (!taken) {
                return 0;
            }
            push(pc);
            pc = target;
            return STATES_IF_TAKEN;
        }

        /** Conditions NZ, Z, NC, C, PO, PE, P, M: a pair for each flag, that for 0 first. */
        private boolean holds(int condition) {
            int flag;
            switch (condition >> 1) {
                case 0: flag = ZERO; break;
                case 1: flag = CARRY; break;
                case 2: flag = PARITY; break;
                default: flag = SIGN; break;
            }
            boolean wanted = (condition & 1) != 0;
            return (flags & flag) != 0 == wanted;
        }

        private void calculate(int kind, int value) {
            int a = registers[A];
            int carry = flags & CARRY;
            switch (kind & 7) {
                case 0: registers[A] = add(a, value, 0, 0); break;
                case 1: registers[A] = add(a, value, carry, 0); break;
                case 2: registers[A] = add(a, value ^ 255, 1, CARRY); break;
                case 3: registers[A] = add(a, value ^ 255, 1 - carry, CARRY); break;
                case 4: setLogical(a & value, (a | value) << 1 & AUXILIARY); break;
                case 5: setLogical(a ^ value, 0); break;
                case 6: setLogical(a | value, 0); break;
                default: add(a, value ^ 255, 1, CARRY); break;
            }
        }

        /**
         * A sum with its flags. A subtraction adds all bits turned, and has its carry turned:
         * such an addition carries where nothing is borrowed.
         */
        private int add(int a, int b, int more, int turned) {
            int sum = a + b + more;
            int auxiliary = (a & 15) + (b & 15) + more & AUXILIARY;
            int carry = (sum >> 8 & CARRY) ^ turned;
            flags = flagsOf(sum & 255) | auxiliary | carry;
            return sum & 255;
        }

        private void setLogical(int result, int auxiliary) {
            registers[A] = result;
            flags = flagsOf(result) | auxiliary;
        }

        private int increment(int value) {
            int result = value + 1 & 255;
            int auxiliary = (result & 15) == 0 ? AUXILIARY : 0;
            flags = flagsOf(result) | auxiliary | flags & CARRY;
            return result;
        }

        private int decrement(int value) {
            int result = value - 1 & 255;
            int auxiliary = (result & 15) == 15 ? 0 : AUXILIARY;
            flags = flagsOf(result) | auxiliary | flags & CARRY;
            return result;
        }

        private void addToHl(int word) {
            int sum = pairAt(H) + word;
            setPairAt(H, sum);
            setCarry(sum >> 16);
        }

        /** The flags that a result tells by itself, the others 0. */
        private static int flagsOf(int result) {
            int zero = result == 0 ? ZERO : 0;
            int parity = (Integer.bitCount(result) & 1) == 0 ? PARITY : 0;
            return result & SIGN | zero | parity | ALWAYS;
        }

        private int operand(int place) {
            int r = place & 7;
            return r == M ? store.read(pairAt(H)) : registers[r];
        }

        private void setOperand(int place, int value) {
            int r = place & 7;
            if (r == M) {
                store.write(pairAt(H), value);
            } else {
                registers[r] = value;
            }
        }

        /** The pair whose upper half is register B, D or H. */
        private int pairAt(int upper) {
            int r = upper & 6;
            return registers[r] << 8 | registers[r + 1];
        }

        private void setPairAt(int upper, int word) {
            int r = upper & 6;
            registers[r] = word >> 8 & 255;
            registers[r + 1] = word & 255;
        }

        private int pairOrSp(int pair) {
            return pair == 3 ? sp : pairAt(2 * pair);
        }

        private void setPairOrSp(int pair, int word) {
            if (pair == 3) {
                sp = word & 65535;
            } else {
                setPairAt(2 * pair, word);
            }
        }

        private int fetch() {
            int value = store.read(pc);
            pc = pc + 1 & 65535;
            return value;
        }

        private int fetchWord() {
            int word = store.readWord(pc);
            pc = pc + 2 & 65535;
            return word;
        }

        private void push(int word) {
            sp = sp - 2 & 65535;
            store.writeWord(sp, word);
        }

        private int pop() {
            int word = store.readWord(sp);
            sp = sp + 2 & 65535;
            return word;
        }
    }
}
