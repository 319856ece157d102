/** Promise 12, state. */
public final class StateTest {
    public static void main(String[] args) {
        Check.of(Sentence.STATE);
        latches();
        shifted();
        states();
        frames();
        request();
        unfed();
        Check.of(Sentence.STATE_REFUSED);
        wrong();
        Check.finish();
    }

    private static void latches() {
        InvaderBoard board = Boards.stepped(4, 0x3E, 0xA5, 0xD3, 0x03, 0x3E, 0x5A, 0xD3, 0x05, 0x3E, 0x00, 0xD3, 0x03);
        Check.due("latch 3", board.state(Boards.LATCH_3), 0xA5);
        Check.due("latch 5", board.state(Boards.LATCH_5), 0x5A);
        Boards.steps(board, 2);
        Check.due("latch 3 again", board.state(Boards.LATCH_3), 0);
        Check.due("latch 5 stays", board.state(Boards.LATCH_5), 0x5A);
    }

    private static void shifted() {
        InvaderBoard board = Boards.stepped(2, 0x3E, 0x96, 0xD3, 0x04, 0x3E, 0x0B, 0xD3, 0x02);
        Check.due("no offset", board.state(Boards.SHIFTED), 0x96);
        Boards.steps(board, 2);
        Check.due("offset 3", board.state(Boards.SHIFTED), 0xB0);
        Check.due("A", board.register(Boards.A), 0x0B);
    }

    /** From 0 up to 33332, then from 0 on again. */
    private static void states() {
        InvaderBoard board = Boards.stepped(1, 0x76);
        Check.due("behind HLT", board.state(Boards.STATES), 7);
        board.run(33332 - 7);
        Check.due("the most", board.state(Boards.STATES), 33332);
        board.step();
        Check.due("the next frame's", board.state(Boards.STATES), 0);
        board.step();
        Check.due("its first", board.state(Boards.STATES), 1);
    }

    private static void request() {
        InvaderBoard board = Boards.stepped(1, 0x76);
        Check.due("none", board.state(Boards.REQUEST), 0);
        board.run(16667 - 7);
        Check.due("RST 1", board.state(Boards.REQUEST), 1);
        board.run(33333 - 16667);
        Check.due("RST 2", board.state(Boards.REQUEST), 2);
        board = Boards.atState(16667, 0xFB, 0x00);
        Boards.steps(board, 3);
        Check.due("none when it is taken", board.state(Boards.REQUEST), 0);
    }

    private static void unfed() {
        InvaderBoard board = Boards.atState(2 * 33333 + 50, 0xD3, 0x06, 0x76);
        Check.due("two", board.state(Boards.UNFED), 2);
        board.step();
        Check.due("none when it is fed", board.state(Boards.UNFED), 0);
        board.step();
        Boards.pass(board, 33333 - 50 - 17);
        Check.due("one at the end of that frame", board.state(Boards.UNFED), 1);
        Boards.pass(board, 14 * 33333);
        Check.due("the most", board.state(Boards.UNFED), 15);
        Boards.pass(board, 33333);
        Check.due("none behind the reset", board.state(Boards.UNFED), 0);
    }

    private static void frames() {
        InvaderBoard board = Boards.stepped(1, 0x76);
        Check.due("states", board.state(Boards.STATES), 7);
        Boards.pass(board, 33333 * 2 + 20000 - 7);
        Check.due("states", board.state(Boards.STATES), 20000);
        Check.due("frames", board.state(Boards.FRAMES), 2);
        Check.due("request", board.state(Boards.REQUEST), 1);
        Check.due("unfed", board.state(Boards.UNFED), 2);
        Boards.pass(board, 33333 * 20);
        Check.due("frames go on over a reset", board.state(Boards.FRAMES), 22);
        Check.due("unfed since the reset", board.state(Boards.UNFED), 6);
    }

    private static void wrong() {
        InvaderBoard board = new InvaderBoard();
        int[] numbers = {-1, 7, 8, 256, Integer.MIN_VALUE, Integer.MAX_VALUE};
        for (int what : numbers) {
            Check.illegal("state " + what, () -> board.state(what));
        }
    }
}
