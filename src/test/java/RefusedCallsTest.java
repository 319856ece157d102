import java.util.Arrays;

/** A refused call throws what the document names, and leaves the board as it was. */
public final class RefusedCallsTest {
    private static final int LEAST = Integer.MIN_VALUE;
    private static final int MOST = Integer.MAX_VALUE;

    public static void main(String[] args) {
        InvaderBoard board = used();
        long[] before = told(board);
        Check.of(Sentence.LOAD_REFUSED);
        for (int n : new int[] {LEAST, -1, 0, 5, 6, MOST}) {
            Check.illegal("load of " + n + " bytes", () -> board.load(0, 0x01020304, n));
        }
        for (int n = 1; n <= 4; n++) {
            int count = n;
            for (int address : new int[] {LEAST, -1, 2049 - n, 2048, 8192, 65536, MOST}) {
                Check.illegal("load at " + address + " of " + n, () -> board.load(address, 0x01020304, count));
            }
        }
        Check.of(Sentence.INPUT_REFUSED);
        for (int port : new int[] {LEAST, -1, 3, 4, 256, MOST}) {
            Check.illegal("input " + port, () -> board.input(port, 85));
        }
        Check.of(Sentence.RUN_REFUSED);
        for (int states : new int[] {LEAST, -1, 0, 40001, MOST}) {
            Check.illegal("run " + states, () -> board.run(states));
        }
        Check.of(Sentence.REGISTER_REFUSED);
        for (int r : new int[] {LEAST, -1, 12, 13, 256, MOST}) {
            Check.illegal("register " + r, () -> board.register(r));
        }
        Check.of(Sentence.DOT_REFUSED);
        for (int[] place : new int[][] {{-1, 0}, {0, -1}, {224, 0}, {0, 256}, {LEAST, 0}, {0, LEAST}, {MOST, 0}, {0, MOST}}) {
            Check.refused("dot " + place[0] + ", " + place[1], IndexOutOfBoundsException.class,
                () -> board.dot(place[0], place[1]));
        }
        Check.of(Sentence.STATE_REFUSED);
        for (int what : new int[] {LEAST, -1, 7, 8, 256, MOST}) {
            Check.illegal("state " + what, () -> board.state(what));
        }
        Check.of(Sentence.SOUNDS_REFUSED);
        for (int bit : new int[] {LEAST, -1, 16, 17, 256, MOST}) {
            Check.illegal("sounds " + bit, () -> board.sounds(bit));
        }
        Check.of(null);
        Check.due("the board is as it was", Arrays.equals(told(board), before) ? 1 : 0, 1);
        Check.due("the EI before is not forgotten", board.step(), 5);
        Check.due("enabled", board.register(Boards.ENABLED), 1);
        board.step();
        Check.due("the inputs neither", board.register(Boards.A), 33);
        Check.finish();
    }

    /** A board in the middle of a program, with an EI as its last instruction. */
    private static InvaderBoard used() {
        InvaderBoard board = Boards.with(0x3E, 0xC3, 0xD3, 0x03, 0xD3, 0x05, 0xD3, 0x04, 0xD3, 0x02, 0xC6, 0x71,
            0x01, 0x34, 0x12, 0x31, 0x00, 0x24, 0xFB, 0x03, 0xDB, 0x02);
        board.input(2, 33);
        board.poke(0x2400, 0x81);
        board.poke(0x3FFF, 0x18);
        Boards.steps(board, 9);
        return board;
    }

    private static long[] told(InvaderBoard board) {
        long[] told = new long[12 + 7 + 16 + 40];
        int at = 0;
        for (int r = 0; r < 12; r++) {
            told[at++] = board.register(r);
        }
        for (int what = 0; what < 7; what++) {
            told[at++] = board.state(what);
        }
        for (int bit = 0; bit < 16; bit++) {
            told[at++] = board.sounds(bit);
        }
        for (int address = 0; address < 30; address++) {
            told[at++] = board.memory(address);
        }
        for (int address = 2044; address < 2050; address++) {
            told[at++] = board.memory(address);
        }
        told[at++] = board.lit(0, 0, 224, 256);
        told[at++] = board.dot(0, 255);
        told[at++] = board.memory(0x2400);
        told[at] = board.memory(0x3FFF);
        return told;
    }
}
