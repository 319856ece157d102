/** Boards with programs, for tests. */
final class Boards {
    static final int B = 0;
    static final int C = 1;
    static final int D = 2;
    static final int E = 3;
    static final int H = 4;
    static final int L = 5;
    static final int FLAGS = 6;
    static final int A = 7;
    static final int SP = 8;
    static final int PC = 9;
    static final int ENABLED = 10;
    static final int HALTED = 11;

    static final int LATCH_3 = 0;
    static final int LATCH_5 = 1;
    static final int STATES = 2;
    static final int FRAMES = 3;
    static final int REQUEST = 4;
    static final int UNFED = 5;
    static final int SHIFTED = 6;

    static final int MIDDLE = 16667;
    static final int FRAME = 33333;

    /** Where the program of a board from atState or poised begins. */
    static final int PLACE = 0x40;

    private Boards() {
    }

    /** A new board with bytes in its ROM from address 0 on. */
    static InvaderBoard with(int... bytes) {
        InvaderBoard board = new InvaderBoard();
        loadAt(board, 0, bytes);
        return board;
    }

    static void loadAt(InvaderBoard board, int address, int... bytes) {
        for (int i = 0; i < bytes.length; i++) {
            board.load(address + i, bytes[i], 1);
        }
    }

    static InvaderBoard stepped(int steps, int... bytes) {
        InvaderBoard board = with(bytes);
        steps(board, steps);
        return board;
    }

    static void steps(InvaderBoard board, int steps) {
        for (int i = 0; i < steps; i++) {
            board.step();
        }
    }

    /** Runs in pieces, for more states than one run may have; the board is in a wait or a loop of equal steps. */
    static void pass(InvaderBoard board, int states) {
        int left = states;
        while (left > 0) {
            left -= board.run(Math.min(left, 40000));
        }
    }

    /**
     * A board on which exactly so many states have gone by (31 at least), all registers but PC as new, at the start
     * of a program at PLACE. Interrupts are disabled, so requests have come and were not taken.
     */
    static InvaderBoard atState(int states, int... program) {
        int fives = states % 2;
        int fours = 0;
        while ((4 * fours + 5 * fives) % 10 != states % 10) {
            fours++;
        }
        InvaderBoard board = new InvaderBoard();
        int at = 0;
        for (int i = 0; i < fours; i++) {
            at = board.load(at, 0x00, 1);
        }
        for (int i = 0; i < fives; i++) {
            at = board.load(at, 0x7F, 1);
        }
        board.load(at, 0xC30000 | PLACE << 8, 3);
        board.load(PLACE, 0xC30000 | PLACE << 8, 3);
        pass(board, states);
        loadAt(board, PLACE, program);
        return board;
    }

    /** A board with contents of all its registers, at the start of a program at PLACE. */
    static InvaderBoard poised(int psw, int bc, int de, int hl, int sp, int... program) {
        InvaderBoard board = with(0x31, 0xFE, 0x23, 0xF1);
        board.poke(0x23FE, psw);
        board.poke(0x23FF, psw >> 8);
        board.load(4, 0x010000 | swapped(bc), 3);
        board.load(7, 0x110000 | swapped(de), 3);
        board.load(10, 0x210000 | swapped(hl), 3);
        board.load(13, 0x310000 | swapped(sp), 3);
        board.load(16, 0xC30000 | swapped(PLACE), 3);
        loadAt(board, PLACE, program);
        steps(board, 7);
        return board;
    }

    static int pair(InvaderBoard board, int upper) {
        return board.register(upper) << 8 | board.register(upper + 1);
    }

    private static int swapped(int word) {
        return (word & 255) << 8 | word >> 8;
    }
}
