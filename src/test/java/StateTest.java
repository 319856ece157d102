/** Promise 12, state. */
public final class StateTest {
    public static void main(String[] args) {
        latches();
        shifted();
        frames();
        wrong();
        Check.finish();
    }

    private static void latches() {
        InvaderBoard board = Boards.stepped(4, 0x3E, 0xA5, 0xD3, 0x03, 0x3E, 0x5A, 0xD3, 0x05, 0x3E, 0x00, 0xD3, 0x03);
        Check.due("latch 3", board.state(Boards.LATCH_3), 0xA5);
        Check.due("latch 5", board.state(Boards.LATCH_5), 0x5A);
        Boards.steps(board, 2);
        Check.due("latch 3 again", board.state(Boards.LATCH_3), 0);
        Check.due("latch 5 stays", board.state(Boards.LATCH_5), 0x5A);
        for (int port = 0; port < 256; port++) {
            if (port < 2 || port > 6) {
                board = Boards.stepped(2, 0x3E, 0xFF, 0xD3, port);
                Check.due("latch 3 by OUT " + port, board.state(Boards.LATCH_3), 0);
                Check.due("latch 5 by OUT " + port, board.state(Boards.LATCH_5), 0);
                Check.due("shifter by OUT " + port, board.state(Boards.SHIFTED), 0);
            }
        }
    }

    private static void shifted() {
        InvaderBoard board = Boards.stepped(2, 0x3E, 0x96, 0xD3, 0x04, 0x3E, 0x0B, 0xD3, 0x02);
        Check.due("no offset", board.state(Boards.SHIFTED), 0x96);
        Boards.steps(board, 2);
        Check.due("offset 3", board.state(Boards.SHIFTED), 0xB0);
        Check.due("A", board.register(Boards.A), 0x0B);
    }

    private static void frames() {
        InvaderBoard board = Boards.stepped(1, 0x76);
        Check.due("states", board.state(Boards.STATES), 7);
        Boards.pass(board, 33333 * 2 + 20000 - 7);
        Check.due("states", board.state(Boards.STATES), 20000);
        Check.due("frames", board.state(Boards.FRAMES), 2);
        Check.due("request", board.state(Boards.REQUEST), 1);
        Check.due("unfed", board.state(Boards.UNFED), 2);
        Boards.pass(board, 33333 * 20);
        Check.due("frames go on over a reset", board.state(Boards.FRAMES), 22);
        Check.due("unfed since the reset", board.state(Boards.UNFED), 6);
    }

    private static void wrong() {
        InvaderBoard board = new InvaderBoard();
        int[] numbers = {-1, 7, 8, 256, Integer.MIN_VALUE, Integer.MAX_VALUE};
        for (int what : numbers) {
            Check.illegal("state " + what, () -> board.state(what));
        }
    }
}
