/** Promise 4, input; the ports that IN reads. */
public final class InputTest {
    public static void main(String[] args) {
        eachPort();
        lowestBitsOnly();
        otherPortsAreZero();
        shifter();
        wrong();
        Check.finish();
    }

    private static int in(InvaderBoard board, int port) {
        board.reset();
        board.load(0, 0xDB00 | port, 2);
        Check.due("states of IN", board.step(), 10);
        Check.due("PC behind IN", board.register(Boards.PC), 2);
        Check.due("flags of IN", board.register(Boards.FLAGS), 2);
        return board.register(Boards.A);
    }

    private static void eachPort() {
        InvaderBoard board = new InvaderBoard();
        for (int port = 0; port < 3; port++) {
            Check.due("new port", in(board, port), 0);
            board.input(port, 100 + port);
        }
        for (int port = 0; port < 3; port++) {
            Check.due("port " + port, in(board, port), 100 + port);
            board.input(port, 0);
            Check.due("port again", in(board, port), 0);
        }
    }

    private static void lowestBitsOnly() {
        InvaderBoard board = new InvaderBoard();
        int[] bits = {255, 256, 0x1234, -1, -256, Integer.MIN_VALUE, Integer.MAX_VALUE};
        for (int b : bits) {
            board.input(2, b);
            Check.due("bits of " + b, in(board, 2), b & 255);
        }
    }

    private static void otherPortsAreZero() {
        InvaderBoard board = new InvaderBoard();
        for (int port = 0; port < 3; port++) {
            board.input(port, 255);
        }
        for (int port = 3; port < 256; port += port < 10 ? 1 : 7) {
            Check.due("port " + port, in(board, port), 0);
        }
    }

    /** OUT 4 twice, OUT 2, IN 3. */
    private static void shifter() {
        for (int offset = 0; offset < 8; offset++) {
            InvaderBoard board = Boards.stepped(7,
                0x3E, 0xA5, 0xD3, 0x04, 0x3E, 0x3C, 0xD3, 0x04, 0x3E, 0xF8 | offset, 0xD3, 0x02, 0xDB, 0x03);
            int want = 0x3CA5 << offset >> 8 & 255;
            Check.due("IN 3, offset " + offset, board.register(Boards.A), want);
            Check.due("state 6, offset " + offset, board.state(Boards.SHIFTED), want);
        }
        InvaderBoard board = Boards.stepped(8,
            0x3E, 0x01, 0xD3, 0x04, 0x3E, 0x02, 0xD3, 0x04, 0x3E, 0x03, 0xD3, 0x04, 0x3E, 0x07, 0xD3, 0x02);
        Check.due("the oldest byte is gone", board.state(Boards.SHIFTED), 0x0302 << 7 >> 8 & 255);
    }

    private static void wrong() {
        InvaderBoard board = new InvaderBoard();
        int[] ports = {-1, 3, 4, 256, Integer.MIN_VALUE, Integer.MAX_VALUE};
        for (int port : ports) {
            Check.illegal("input " + port, () -> board.input(port, 1));
        }
        for (int port = 0; port < 4; port++) {
            Check.due("port unchanged", in(board, port), 0);
        }
    }
}
