/** Promise 4, input. */
public final class InputTest {
    public static void main(String[] args) {
        Check.of(Sentence.INPUT);
        eachPort();
        lowestBitsOnly();
        fromNowOn();
        Check.of(Sentence.INPUT_REFUSED);
        refused();
        Check.finish();
    }

    private static int in(InvaderBoard board, int port) {
        board.reset();
        board.load(0, 0xDB00 | port, 2);
        board.step();
        return board.register(Boards.A);
    }

    private static void eachPort() {
        InvaderBoard board = new InvaderBoard();
        for (int port = 0; port < 3; port++) {
            board.input(port, 100 + port);
        }
        for (int port = 0; port < 3; port++) {
            Check.due("port " + port, in(board, port), 100 + port);
            board.input(port, 0);
            Check.due("port " + port + " again", in(board, port), 0);
        }
    }

    private static void lowestBitsOnly() {
        int[] numbers = {0, 1, 127, 128, 255, 256, 257, 0x1234, -1, -128, -256, -257, Integer.MIN_VALUE, Integer.MAX_VALUE};
        for (int port = 0; port < 3; port++) {
            InvaderBoard board = new InvaderBoard();
            for (int bits : numbers) {
                board.input(port, bits);
                Check.due("bits of " + bits, in(board, port), bits & 255);
                Check.due("the shifter", board.state(Boards.SHIFTED), 0);
            }
        }
    }

    private static void fromNowOn() {
        InvaderBoard board = Boards.with(0xDB, 0x01, 0x47, 0xDB, 0x01);
        board.input(1, 7);
        board.step();
        board.input(1, 9);
        Check.due("A doesn't change by itself", board.register(Boards.A), 7);
        Boards.steps(board, 2);
        Check.due("the first IN", board.register(Boards.B), 7);
        Check.due("the second IN", board.register(Boards.A), 9);
        board.run(40000);
        Check.due("after a frame", in(board, 1), 9);
        board.reset();
        Check.due("after a reset", in(board, 1), 9);
    }

    private static void refused() {
        InvaderBoard board = new InvaderBoard();
        int[] ports = {-1, 3, 4, 255, 256, Integer.MIN_VALUE, Integer.MAX_VALUE};
        for (int port : ports) {
            Check.illegal("input " + port, () -> board.input(port, 1));
        }
        for (int port = 0; port < 8; port++) {
            Check.due("port " + port + " as it was", in(board, port), 0);
        }
    }
}
