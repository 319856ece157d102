/** Promise 5, step: states of every code, and what instructions do, told by hand. */
public final class StepTest {
    /** States of each code, conditional ones as with all flags 0; a row has 16 codes. */
    private static final int[] DUE = {
        4, 10, 7, 5, 5, 5, 7, 4, 4, 10, 7, 5, 5, 5, 7, 4,
        4, 10, 7, 5, 5, 5, 7, 4, 4, 10, 7, 5, 5, 5, 7, 4,
        4, 10, 16, 5, 5, 5, 7, 4, 4, 10, 16, 5, 5, 5, 7, 4,
        4, 10, 13, 5, 10, 10, 10, 4, 4, 10, 13, 5, 5, 5, 7, 4,
    };

    public static void main(String[] args) {
        Check.of(Sentence.PROCESSOR);
        statesOfCodes();
        statesOfConditions();
        arithmetic();
        incrementsKeepCarry();
        decimal();
        rotations();
        words();
        stack();
        jumpsAndCalls();
        Check.of(Sentence.STEP);
        oneInstruction();
        oneRequest();
        oneState();
        Check.finish();
    }

    private static void statesOfCodes() {
        for (int code = 0; code < 64; code++) {
            states(code, DUE[code]);
        }
        for (int code = 64; code < 192; code++) {
            boolean memory = (code & 7) == 6 || code >= 0x70 && code < 0x78;
            states(code, memory ? 7 : code < 128 ? 5 : 4);
        }
        int[] tens = {0xC1, 0xD1, 0xE1, 0xF1, 0xC3, 0xCB, 0xC9, 0xD9, 0xD3, 0xDB};
        for (int code : tens) {
            states(code, 10);
        }
        int[] elevens = {0xC5, 0xD5, 0xE5, 0xF5, 0xC7, 0xCF, 0xD7, 0xDF, 0xE7, 0xEF, 0xF7, 0xFF};
        for (int code : elevens) {
            states(code, 11);
        }
        int[] calls = {0xCD, 0xDD, 0xED, 0xFD};
        for (int code : calls) {
            states(code, 17);
        }
        for (int code = 0xC6; code < 256; code += 8) {
            states(code, 7);
        }
        states(0xE3, 18);
        states(0xEB, 4);
        states(0xE9, 5);
        states(0xF9, 5);
        states(0xF3, 4);
        states(0xFB, 4);
    }

    private static void states(int code, int want) {
        InvaderBoard board = Boards.with(code);
        Check.due("states of " + Integer.toHexString(code), board.step(), want);
        Check.due("state 2 behind " + Integer.toHexString(code), board.state(Boards.STATES), want);
    }

    /** Every condition with every setting of the four flags that conditions ask for. */
    private static void statesOfConditions() {
        int[] asked = {64, 64, 1, 1, 4, 4, 128, 128};
        for (int condition = 0; condition < 8; condition++) {
            for (int flags = 0; flags < 256; flags++) {
                boolean taken = (flags & asked[condition]) != 0 == (condition % 2 == 1);
                String name = " on condition " + condition + " with flags " + flags;
                InvaderBoard board = conditional(0xC0 + 8 * condition, flags);
                Check.due("RET" + name, board.step(), taken ? 11 : 5);
                Check.due("PC of RET" + name, board.register(Boards.PC), taken ? 0x1234 : 5);
                board = conditional(0xC2 + 8 * condition, flags);
                Check.due("JMP" + name, board.step(), 10);
                Check.due("PC of JMP" + name, board.register(Boards.PC), taken ? 0x0155 : 7);
                board = conditional(0xC4 + 8 * condition, flags);
                Check.due("CALL" + name, board.step(), taken ? 17 : 11);
                Check.due("PC of CALL" + name, board.register(Boards.PC), taken ? 0x0155 : 7);
                Check.due("SP of CALL" + name, board.register(Boards.SP), taken ? 0x2000 : 0x2002);
                Check.due("pushed by CALL" + name, board.memory(0x2000), taken ? 7 : flags);
            }
        }
    }

    private static InvaderBoard conditional(int code, int flags) {
        InvaderBoard board = Boards.with(0x31, 0x00, 0x20, 0xF1, code, 0x55, 0x01);
        board.poke(0x2000, flags);
        board.poke(0x2002, 0x34);
        board.poke(0x2003, 0x12);
        Boards.steps(board, 2);
        return board;
    }

    /** A, an ALU code with a byte: A and the flags then. */
    private static void sum(int a, int code, int value, int wantA, int wantFlags) {
        InvaderBoard board = Boards.stepped(2, 0x3E, a, code, value);
        String name = Integer.toHexString(code) + " of " + a + ", " + value;
        Check.due(name, board.register(Boards.A), wantA);
        Check.due(name + ": flags", board.register(Boards.FLAGS), wantFlags);
    }

    private static void arithmetic() {
        sum(0x6C, 0xC6, 0x2E, 0x9A, 0x96);
        sum(0xFF, 0xC6, 0x01, 0x00, 0x57);
        sum(0x3E, 0xD6, 0x3E, 0x00, 0x56);
        sum(0x00, 0xD6, 0x01, 0xFF, 0x87);
        sum(0x10, 0xD6, 0x01, 0x0F, 0x06);
        sum(0x0A, 0xFE, 0x05, 0x0A, 0x16);
        sum(0x02, 0xFE, 0x05, 0x02, 0x83);
        sum(0xFC, 0xE6, 0x0F, 0x0C, 0x16);
        sum(0xF0, 0xE6, 0x08, 0x00, 0x56);
        sum(0xF0, 0xE6, 0x17, 0x10, 0x02);
        sum(0x5C, 0xEE, 0x78, 0x24, 0x06);
        sum(0x33, 0xF6, 0x0F, 0x3F, 0x06);
        sum(0x00, 0xF6, 0x00, 0x00, 0x46);
        InvaderBoard board = Boards.stepped(3, 0x37, 0x3E, 0x3D, 0xCE, 0x42);
        Check.due("ADC", board.register(Boards.A), 0x80);
        Check.due("ADC: flags", board.register(Boards.FLAGS), 0x92);
        board = Boards.stepped(3, 0x37, 0x3E, 0x04, 0xDE, 0x02);
        Check.due("SBB", board.register(Boards.A), 0x01);
        Check.due("SBB: flags", board.register(Boards.FLAGS), 0x12);
        board = Boards.stepped(2, 0x37, 0xDE, 0xFF);
        Check.due("SBB of all and a borrow", board.register(Boards.A), 0x00);
        Check.due("SBB of all: flags", board.register(Boards.FLAGS), 0x47);
        board = Boards.stepped(3, 0x37, 0x3E, 0xFF, 0xE6, 0xFF);
        Check.due("AND clears CARRY", board.register(Boards.FLAGS), 0x96);
    }

    private static void incrementsKeepCarry() {
        InvaderBoard board = Boards.stepped(3, 0x37, 0x06, 0xFF, 0x04);
        Check.due("INR", board.register(Boards.B), 0);
        Check.due("INR: flags", board.register(Boards.FLAGS), 0x57);
        board.reset();
        Boards.loadAt(board, 0, 0x3F, 0x06, 0x00, 0x05);
        Boards.steps(board, 3);
        Check.due("DCR", board.register(Boards.B), 255);
        Check.due("DCR: flags", board.register(Boards.FLAGS), 0x87);
        board = Boards.stepped(2, 0x06, 0x11, 0x05);
        Check.due("DCR with AUXILIARY", board.register(Boards.FLAGS), 0x12);
        board = Boards.stepped(2, 0x21, 0x00, 0x24, 0x34);
        Check.due("INR M", board.step(), 4);
        Check.due("INR M: memory", board.memory(0x2400), 1);
    }

    private static void decimal() {
        InvaderBoard board = Boards.stepped(2, 0x3E, 0x9B, 0x27);
        Check.due("DAA", board.register(Boards.A), 1);
        Check.due("DAA: flags", board.register(Boards.FLAGS), 0x13);
        board = Boards.stepped(3, 0x3E, 0x99, 0xC6, 0x99, 0x27);
        Check.due("99 and 99", board.register(Boards.A), 0x98);
        Check.due("99 and 99: flags", board.register(Boards.FLAGS), 0x83);
        board = Boards.stepped(2, 0x3E, 0x45, 0x27);
        Check.due("DAA with nothing to do", board.register(Boards.A), 0x45);
        Check.due("DAA with nothing to do: flags", board.register(Boards.FLAGS), 0x02);
        board = Boards.stepped(3, 0x37, 0x3E, 0x05, 0x27);
        Check.due("DAA keeps CARRY", board.register(Boards.A), 0x65);
        Check.due("DAA keeps CARRY: flags", board.register(Boards.FLAGS), 0x07);
    }

    private static void rotations() {
        rotation(0x07, 0xF2, false, 0xE5, 3);
        rotation(0x0F, 0xF2, true, 0x79, 2);
        rotation(0x17, 0xB5, false, 0x6A, 3);
        rotation(0x17, 0x35, true, 0x6B, 2);
        rotation(0x1F, 0x6A, true, 0xB5, 2);
        rotation(0x1F, 0x6B, false, 0x35, 3);
        rotation(0x2F, 0x51, true, 0xAE, 3);
        rotation(0x37, 0x51, false, 0x51, 3);
        rotation(0x3F, 0x51, true, 0x51, 2);
        rotation(0x3F, 0x51, false, 0x51, 3);
    }

    private static void rotation(int code, int a, boolean carry, int wantA, int wantFlags) {
        InvaderBoard board = Boards.stepped(3, 0x3E, a, carry ? 0x37 : 0x00, code);
        Check.due(Integer.toHexString(code) + " of " + a, board.register(Boards.A), wantA);
        Check.due(Integer.toHexString(code) + ": flags", board.register(Boards.FLAGS), wantFlags);
    }

    private static void words() {
        InvaderBoard board = Boards.stepped(3, 0x01, 0x9F, 0x33, 0x21, 0x7B, 0xA1, 0x09);
        Check.due("DAD B: H", board.register(Boards.H), 0xD5);
        Check.due("DAD B: L", board.register(Boards.L), 0x1A);
        Check.due("DAD B: flags", board.register(Boards.FLAGS), 2);
        board = Boards.stepped(2, 0x21, 0x00, 0x80, 0x29);
        Check.due("DAD H: H", board.register(Boards.H), 0);
        Check.due("DAD H: flags", board.register(Boards.FLAGS), 3);
        board = Boards.stepped(2, 0x31, 0xFF, 0xFF, 0x33);
        Check.due("INX SP", board.register(Boards.SP), 0);
        Check.due("INX SP: flags", board.register(Boards.FLAGS), 2);
        board = Boards.stepped(1, 0x1B);
        Check.due("DCX D: D", board.register(Boards.D), 255);
        Check.due("DCX D: E", board.register(Boards.E), 255);
        board = Boards.stepped(4, 0x21, 0x29, 0xAE, 0x22, 0x0A, 0x21, 0x21, 0x00, 0x00, 0x2A, 0x0A, 0x61);
        Check.due("SHLD: lower", board.memory(0x210A), 0x29);
        Check.due("SHLD: upper", board.memory(0x210B), 0xAE);
        Check.due("LHLD of a mirror: L", board.register(Boards.L), 0x29);
        Check.due("LHLD of a mirror: H", board.register(Boards.H), 0xAE);
    }

    private static void stack() {
        InvaderBoard board = Boards.stepped(5,
            0x31, 0x02, 0x24, 0x3E, 0x1F, 0xC6, 0xF1, 0xF5, 0xC1);
        Check.due("POP B: B", board.register(Boards.B), 0x10);
        Check.due("POP B: C", board.register(Boards.C), 0x13);
        Check.due("SP", board.register(Boards.SP), 0x2402);
        board = Boards.stepped(5, 0x31, 0x00, 0x24, 0x01, 0xFF, 0xAB, 0xC5, 0xF1, 0x00);
        Check.due("POP PSW: A", board.register(Boards.A), 0xAB);
        Check.due("POP PSW: flags", board.register(Boards.FLAGS), 0xD7);
        board = Boards.stepped(5, 0x31, 0x00, 0x24, 0x01, 0x00, 0xAB, 0xC5, 0xF1, 0x00);
        Check.due("POP PSW of 0: flags", board.register(Boards.FLAGS), 2);
        board = Boards.stepped(1, 0xE5);
        Check.due("PUSH below 0", board.register(Boards.SP), 0xFFFE);
    }

    private static void jumpsAndCalls() {
        InvaderBoard board = Boards.stepped(2, 0x31, 0x00, 0x24, 0xEF);
        Check.due("RST 5", board.register(Boards.PC), 40);
        Check.due("RST 5: SP", board.register(Boards.SP), 0x23FE);
        Check.due("RST 5: pushed", board.memory(0x23FE), 4);
        board = Boards.stepped(2, 0x21, 0x45, 0x01, 0xE9);
        Check.due("PCHL", board.register(Boards.PC), 0x145);
        board = Boards.stepped(2, 0x21, 0x45, 0x01, 0xF9);
        Check.due("SPHL", board.register(Boards.SP), 0x145);
    }

    private static void oneInstruction() {
        InvaderBoard board = Boards.with(0x3C, 0x3C, 0x01, 0x22, 0x11, 0xE3);
        int[] states = {5, 5, 10, 18, 4};
        int[] places = {1, 2, 5, 6, 7};
        int gone = 0;
        for (int i = 0; i < states.length; i++) {
            Check.due("step " + i, board.step(), states[i]);
            gone += states[i];
            Check.due("PC behind step " + i, board.register(Boards.PC), places[i]);
            Check.due("states behind step " + i, board.state(Boards.STATES), gone);
        }
        Check.due("A", board.register(Boards.A), 2);
    }

    /** The step that takes a request doesn't run the first instruction of its handler. */
    private static void oneRequest() {
        InvaderBoard board = Boards.atState(Boards.MIDDLE, 0xFB, 0x00, 0x3C);
        Boards.loadAt(board, 8, 0x3C);
        Boards.steps(board, 2);
        Check.due("a request", board.step(), 11);
        Check.due("PC", board.register(Boards.PC), 8);
        Check.due("A", board.register(Boards.A), 0);
        Check.due("its first instruction", board.step(), 5);
        Check.due("A then", board.register(Boards.A), 1);
    }

    private static void oneState() {
        InvaderBoard board = Boards.with(0x76, 0x3C);
        Check.due("HLT", board.step(), 7);
        Check.due("halted", board.register(Boards.HALTED), 1);
        Check.due("PC behind HLT", board.register(Boards.PC), 1);
        for (int i = 1; i <= 5; i++) {
            Check.due("wait", board.step(), 1);
            Check.due("states", board.state(Boards.STATES), 7 + i);
        }
        Check.due("nothing done", board.register(Boards.A), 0);
        Check.due("PC stays", board.register(Boards.PC), 1);
    }
}
