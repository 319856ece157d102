/** Promise 8, memory; promise 9, poke. */
public final class MemoryTest {
    private static final int BOARD_CALLS = 120;

    public static void main(String[] args) {
        everyAddress();
        pokeAnswers();
        onlyLowestBitsCount();
        asInstructionsRead();
        Check.finish();
    }

    /** What is poked is seen in all mirrors of RAM, and nowhere below. */
    private static void everyAddress() {
        InvaderBoard board = null;
        for (int address = 0; address < 65536; address++) {
            if (address % (BOARD_CALLS / 2) == 0) {
                board = new InvaderBoard();
            }
            int place = address & 16383;
            int want = place >= 8192 ? 1 + address % 255 : 0;
            Check.due("poke " + address, board.poke(address, 1 + address % 255), want);
            for (int mirror = 0; mirror < 65536; mirror += 16384) {
                Check.due("mirror " + mirror + " of " + place, board.memory(mirror + place), want);
            }
        }
    }

    private static void pokeAnswers() {
        InvaderBoard board = Boards.with(0x12, 0x34);
        Check.due("ROM", board.poke(1, 0xFF), 0x34);
        Check.due("ROM stays", board.memory(1), 0x34);
        Check.due("no mirror of the ROM", board.memory(16385), 0);
        Check.due("none there by poke", board.poke(16385, 0xFF), 0);
        Check.due("nor at 32769", board.poke(32769, 0xFF), 0);
        Check.due("nor at 49153", board.memory(49153), 0);
        Check.due("above the ROM", board.poke(2048, 9), 0);
        Check.due("below RAM", board.poke(8191, 9), 0);
        Check.due("first of RAM", board.poke(8192, 9), 9);
        Check.due("last of work RAM", board.poke(9215, 10), 10);
        Check.due("first of the screen", board.poke(9216, 11), 11);
        Check.due("last of the screen", board.poke(16383, 12), 12);
        Check.due("no states", board.state(Boards.STATES), 0);
    }

    private static void onlyLowestBitsCount() {
        InvaderBoard board = Boards.with(0x5A);
        Check.due("ROM behind 65536", board.memory(65536), 0x5A);
        Check.due("ROM below 0", board.memory(-65536), 0x5A);
        Check.due("byte of 300", board.poke(8192, 300), 44);
        Check.due("byte of -1", board.poke(8193, -1), 255);
        Check.due("byte of 256", board.poke(8193, 256), 0);
        Check.due("address -1", board.poke(-1, 77), 77);
        Check.due("is 16383", board.memory(16383), 77);
        Check.due("address 0x7FFFFFFF", board.memory(Integer.MAX_VALUE), 77);
        Check.due("address 0x80000000", board.memory(Integer.MIN_VALUE), 0x5A);
        Check.due("address 0x12000", board.memory(0x12000), 44);
    }

    /** LDA and STA meet what memory and poke tell. */
    private static void asInstructionsRead() {
        int[] addresses = {0, 5, 2047, 2048, 8191, 8192, 9216, 16383, 16384, 24576, 32768, 40960, 65535};
        for (int address : addresses) {
            InvaderBoard board = Boards.with(
                0x3A, address & 255, address >> 8, 0x2F, 0x32, address & 255, address >> 8, 0x3A, address & 255, address >> 8);
            board.poke(address, 0x3C);
            int before = board.memory(address);
            board.step();
            Check.due("LDA " + address, board.register(Boards.A), before);
            Boards.steps(board, 3);
            Check.due("STA " + address, board.memory(address), (address & 8192) != 0 ? 255 - before : before);
            Check.due("LDA again", board.register(Boards.A), board.memory(address));
        }
    }
}
