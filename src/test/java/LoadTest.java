/** Promise 2, load. */
public final class LoadTest {
    public static void main(String[] args) {
        Check.of(Sentence.LOAD);
        ordinary();
        edges();
        overOtherBytes();
        Check.of(Sentence.LOAD_REFUSED);
        wrong();
        Check.finish();
    }

    private static void ordinary() {
        InvaderBoard board = new InvaderBoard();
        Check.due("four bytes", board.load(10, 0x12345678, 4), 14);
        memoryIs(board, 9, 0, 0x12, 0x34, 0x56, 0x78, 0);
        Check.due("three bytes", board.load(10, 0xFFA1B2C3, 3), 13);
        memoryIs(board, 9, 0, 0xA1, 0xB2, 0xC3, 0x78, 0);
        Check.due("two bytes", board.load(12, 0xFFFFD4E5, 2), 14);
        memoryIs(board, 9, 0, 0xA1, 0xB2, 0xD4, 0xE5, 0);
        Check.due("one byte", board.load(10, -1, 1), 11);
        memoryIs(board, 9, 0, 0xFF, 0xB2, 0xD4, 0xE5, 0);
        Check.due("states", board.state(Boards.STATES), 0);
    }

    private static void edges() {
        for (int n = 1; n <= 4; n++) {
            InvaderBoard board = new InvaderBoard();
            Check.due("at the start", board.load(0, 0x01020304, n), n);
            Check.due("first byte", board.memory(0), 5 - n);
            Check.due("at the end", board.load(2048 - n, 0x01020304, n), 2048);
            Check.due("last byte", board.memory(2047), 4);
            Check.due("behind the end", board.memory(2048), 0);
            Check.due("the ROM has no mirror", board.memory(0x4000 + 2047), 0);
        }
    }

    /** What is loaded runs, replaces what was there, and stays when a program writes there. */
    private static void overOtherBytes() {
        InvaderBoard board = new InvaderBoard();
        board.load(0, 0x3C3C3C3C, 4);
        board.load(1, 0x3D3D, 2);
        memoryIs(board, 0, 0x3C, 0x3D, 0x3D, 0x3C, 0);
        Boards.steps(board, 3);
        Check.due("A", board.register(Boards.A), 255);
        board.load(3, 0, 1);
        memoryIs(board, 0, 0x3C, 0x3D, 0x3D, 0, 0);
        board.load(3, 0x100, 1);
        memoryIs(board, 0, 0x3C, 0x3D, 0x3D, 0, 0);
        Check.due("poke", board.poke(0, 1), 0x3C);
    }

    private static void wrong() {
        InvaderBoard board = new InvaderBoard();
        int[] counts = {0, 5, -1, Integer.MIN_VALUE, Integer.MAX_VALUE};
        for (int n : counts) {
            Check.illegal("load of " + n, () -> board.load(0, -1, n));
            Check.illegal("load of " + n + " at 100", () -> board.load(100, -1, n));
        }
        for (int n = 1; n <= 4; n++) {
            int count = n;
            int[] addresses = {-1, 2049 - n, 2048, 0x2000, 65536, Integer.MIN_VALUE, Integer.MAX_VALUE};
            for (int address : addresses) {
                Check.illegal("load at " + address, () -> board.load(address, -1, count));
            }
        }
        memoryIs(board, 0, 0, 0, 0, 0);
        memoryIs(board, 2044, 0, 0, 0, 0, 0);
    }

    private static void memoryIs(InvaderBoard board, int address, int... bytes) {
        for (int i = 0; i < bytes.length; i++) {
            Check.due("memory " + (address + i), board.memory(address + i), bytes[i]);
        }
    }
}
