/** Boards with programs, for tests. */
final class Boards {
    static final int B = 0;
    static final int C = 1;
    static final int D = 2;
    static final int E = 3;
    static final int H = 4;
    static final int L = 5;
    static final int FLAGS = 6;
    static final int A = 7;
    static final int SP = 8;
    static final int PC = 9;
    static final int ENABLED = 10;
    static final int HALTED = 11;

    static final int LATCH_3 = 0;
    static final int LATCH_5 = 1;
    static final int STATES = 2;
    static final int FRAMES = 3;
    static final int REQUEST = 4;
    static final int UNFED = 5;
    static final int SHIFTED = 6;

    private Boards() {
    }

    /** A new board with bytes in its ROM from address 0 on. */
    static InvaderBoard with(int... bytes) {
        InvaderBoard board = new InvaderBoard();
        loadAt(board, 0, bytes);
        return board;
    }

    static void loadAt(InvaderBoard board, int address, int... bytes) {
        for (int i = 0; i < bytes.length; i++) {
            board.load(address + i, bytes[i], 1);
        }
    }

    static InvaderBoard stepped(int steps, int... bytes) {
        InvaderBoard board = with(bytes);
        steps(board, steps);
        return board;
    }

    static void steps(InvaderBoard board, int steps) {
        for (int i = 0; i < steps; i++) {
            board.step();
        }
    }

    /** Runs in pieces, for more states than one run may have; the board is in a wait or a loop of equal steps. */
    static void pass(InvaderBoard board, int states) {
        int left = states;
        while (left > 0) {
            left -= board.run(Math.min(left, 40000));
        }
    }
}
