/** Promise 13, sounds. */
public final class SoundsTest {
    public static void main(String[] args) {
        Check.of(Sentence.SOUNDS);
        eachBit();
        allBits();
        risesOnly();
        sameValueAgain();
        resetLetsBitsRiseAgain();
        resetIsNoOut();
        Check.of(Sentence.SOUNDS_REFUSED);
        wrong();
        Check.finish();
    }

    private static void eachBit() {
        for (int bit = 0; bit < 16; bit++) {
            InvaderBoard board = Boards.stepped(2, 0x3E, 1 << bit % 8, 0xD3, bit < 8 ? 3 : 5);
            for (int other = 0; other < 16; other++) {
                Check.due("sound " + other + " by bit " + bit, board.sounds(other), other == bit ? 1 : 0);
            }
        }
    }

    private static void allBits() {
        InvaderBoard board = Boards.stepped(3, 0x3E, 0xFF, 0xD3, 0x03, 0xD3, 0x05);
        for (int bit = 0; bit < 16; bit++) {
            Check.due("sound " + bit, board.sounds(bit), 1);
        }
    }

    private static void sameValueAgain() {
        InvaderBoard board = Boards.stepped(5, 0x3E, 0xFF, 0xD3, 0x03, 0xD3, 0x03, 0xD3, 0x03, 0xD3, 0x05);
        Check.due("sound 0", board.sounds(0), 1);
        Check.due("sound 8", board.sounds(8), 1);
    }

    /** A reset turns bits to 0, which is no sound; nor does it count when they are 0 already. */
    private static void resetIsNoOut() {
        InvaderBoard board = Boards.stepped(2, 0x3E, 0x01, 0xD3, 0x03);
        board.reset();
        board.reset();
        for (int bit = 0; bit < 16; bit++) {
            Check.due("sound " + bit, board.sounds(bit), bit == 0 ? 1 : 0);
        }
    }

    /** OUT 3 of 1, 3, 2, 3, 0, 3. */
    private static void risesOnly() {
        InvaderBoard board = new InvaderBoard();
        int[] values = {1, 3, 2, 3, 0, 3};
        int[] first = {1, 1, 1, 2, 2, 3};
        int[] second = {0, 1, 1, 1, 1, 2};
        for (int i = 0; i < values.length; i++) {
            Boards.loadAt(board, 4 * i, 0x3E, values[i], 0xD3, 0x03);
            Boards.steps(board, 2);
            Check.due("sound 0 behind " + i, board.sounds(0), first[i]);
            Check.due("sound 1 behind " + i, board.sounds(1), second[i]);
        }
        Check.due("the other latch's", board.sounds(8), 0);
    }

    private static void resetLetsBitsRiseAgain() {
        InvaderBoard board = Boards.stepped(2, 0x3E, 0x81, 0xD3, 0x05);
        board.reset();
        Check.due("stays", board.sounds(15), 1);
        Boards.steps(board, 2);
        Check.due("rises again", board.sounds(15), 2);
        Check.due("so does 8", board.sounds(8), 2);
        Check.due("not 9", board.sounds(9), 0);
    }

    private static void wrong() {
        InvaderBoard board = new InvaderBoard();
        int[] bits = {-1, 16, 17, 256, Integer.MIN_VALUE, Integer.MAX_VALUE};
        for (int bit : bits) {
            Check.illegal("sounds " + bit, () -> board.sounds(bit));
        }
    }
}
