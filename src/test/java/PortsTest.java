/** The ports that IN and OUT reach, and those that are none of them. */
public final class PortsTest {
    public static void main(String[] args) {
        Check.of(Sentence.IN_PORTS);
        inputs();
        shifterAtEveryOffset();
        bitsThatAreShiftedOut();
        otherPortsAreZero();
        inLeavesFlags();
        Check.of(Sentence.OUT_PORTS);
        offsetByItsLowestBits();
        shifterHalves();
        latches();
        feeding();
        otherPortsDoNothing();
        outLeavesRegisters();
        Check.finish();
    }

    /** What IN brings into A, which was 0x5A, behind what the board did before. */
    private static int in(InvaderBoard board, int port) {
        int at = board.register(Boards.PC);
        Boards.loadAt(board, at, 0x3E, 0x5A, 0xDB, port);
        board.step();
        Check.due("states of IN", board.step(), 10);
        Check.due("PC behind IN", board.register(Boards.PC), at + 4);
        return board.register(Boards.A);
    }

    private static void out(InvaderBoard board, int port, int value) {
        int at = board.register(Boards.PC);
        Boards.loadAt(board, at, 0x3E, value, 0xD3, port);
        board.step();
        Check.due("states of OUT", board.step(), 10);
        Check.due("PC behind OUT", board.register(Boards.PC), at + 4);
    }

    private static void inputs() {
        InvaderBoard board = new InvaderBoard();
        for (int port = 0; port < 3; port++) {
            Check.due("new port " + port, in(board, port), 0);
            board.input(port, 0xE0 + port);
        }
        for (int port = 0; port < 3; port++) {
            Check.due("port " + port, in(board, port), 0xE0 + port);
        }
    }

    private static void shifterAtEveryOffset() {
        int[][] bytes = {{0xA5, 0x3C}, {0xFF, 0x00}, {0x00, 0xFF}, {0x80, 0x01}, {0x01, 0x80}};
        for (int[] pair : bytes) {
            InvaderBoard board = new InvaderBoard();
            out(board, 4, pair[0]);
            out(board, 4, pair[1]);
            for (int offset = 0; offset < 8; offset++) {
                out(board, 2, offset);
                int want = 0;
                for (int bit = 0; bit < 8; bit++) {
                    int from = 8 + bit - offset;
                    want |= (from >= 8 ? pair[1] >> from - 8 & 1 : pair[0] >> from & 1) << bit;
                }
                Check.due("IN 3 at offset " + offset, in(board, 3), want);
                Check.due("state 6 at offset " + offset, board.state(Boards.SHIFTED), want);
            }
        }
    }

    /** Reading doesn't shift the shifter itself: what was shifted out is there again at a lower offset. */
    private static void bitsThatAreShiftedOut() {
        InvaderBoard board = new InvaderBoard();
        out(board, 4, 0xFF);
        out(board, 2, 7);
        Check.due("offset 7", in(board, 3), 0x80);
        Check.due("offset 7 again", in(board, 3), 0x80);
        out(board, 2, 0);
        Check.due("offset 0", in(board, 3), 0xFF);
    }

    private static void otherPortsAreZero() {
        for (int from = 4; from < 256; from += 42) {
            InvaderBoard board = new InvaderBoard();
            for (int port = 0; port < 3; port++) {
                board.input(port, 255);
            }
            for (int port = 2; port < 6; port++) {
                out(board, port, 255);
            }
            for (int port = from; port < Math.min(from + 42, 256); port++) {
                Check.due("IN " + port, in(board, port), 0);
            }
        }
    }

    private static void inLeavesFlags() {
        for (int flags : new int[] {0x02, 0xD7}) {
            for (int port = 0; port < 8; port++) {
                InvaderBoard board = Boards.poised(flags, 0, 0, 0, 0, 0xDB, port);
                board.step();
                Check.due("flags behind IN " + port, board.register(Boards.FLAGS), flags);
            }
        }
    }

    private static void offsetByItsLowestBits() {
        for (int value = 0; value < 256; value++) {
            InvaderBoard board = new InvaderBoard();
            out(board, 4, 0xB7);
            out(board, 4, 0x5D);
            out(board, 2, value);
            Check.due("offset " + value, board.state(Boards.SHIFTED), 0x5DB7 << (value & 7) >> 8 & 255);
        }
    }

    private static void shifterHalves() {
        InvaderBoard board = new InvaderBoard();
        out(board, 2, 4);
        int[] bytes = {0x12, 0x34, 0x56, 0x00, 0x9F};
        int[] want = {0x20, 0x41, 0x63, 0x05, 0xF0};
        for (int i = 0; i < bytes.length; i++) {
            out(board, 4, bytes[i]);
            Check.due("shifter behind byte " + i, board.state(Boards.SHIFTED), want[i]);
        }
    }

    private static void latches() {
        InvaderBoard board = new InvaderBoard();
        out(board, 3, 255);
        Check.due("latch 3", board.state(Boards.LATCH_3), 255);
        Check.due("latch 5 as it was", board.state(Boards.LATCH_5), 0);
        out(board, 5, 0x81);
        Check.due("latch 3 as it was", board.state(Boards.LATCH_3), 255);
        Check.due("latch 5", board.state(Boards.LATCH_5), 0x81);
        out(board, 3, 0);
        Check.due("latch 3 of 0", board.state(Boards.LATCH_3), 0);
        Check.due("IN 3 is no latch", in(board, 3), 0);
        Check.due("IN 5 neither", in(board, 5), 0);
        Check.due("the shifter", board.state(Boards.SHIFTED), 0);
    }

    /** OUT 6 feeds whatever is in A. */
    private static void feeding() {
        for (int value : new int[] {0, 1, 255}) {
            InvaderBoard board = Boards.atState(2 * Boards.FRAME + 100, 0x00);
            Check.due("unfed", board.state(Boards.UNFED), 2);
            out(board, 6, value);
            Check.due("fed", board.state(Boards.UNFED), 0);
            Check.due("frames", board.state(Boards.FRAMES), 2);
        }
    }

    private static void otherPortsDoNothing() {
        for (int port = 0; port < 256; port++) {
            if (port >= 2 && port <= 6) {
                continue;
            }
            InvaderBoard board = Boards.atState(Boards.FRAME + 100, 0x00);
            board.input(0, 0x11);
            board.input(1, 0x22);
            board.input(2, 0x33);
            out(board, 4, 0x80);
            out(board, 2, 1);
            out(board, 4, 0x42);
            out(board, 3, 0x0F);
            out(board, 5, 0xF0);
            out(board, port, 0xFF);
            String name = " behind OUT " + port;
            Check.due("latch 3" + name, board.state(Boards.LATCH_3), 0x0F);
            Check.due("latch 5" + name, board.state(Boards.LATCH_5), 0xF0);
            Check.due("shifter" + name, board.state(Boards.SHIFTED), 0x85);
            Check.due("unfed" + name, board.state(Boards.UNFED), 1);
            Check.due("request" + name, board.state(Boards.REQUEST), 2);
            for (int bit = 0; bit < 16; bit++) {
                Check.due("sound " + bit + name, board.sounds(bit), bit < 4 || bit > 11 ? 1 : 0);
            }
            for (int input = 0; input < 3; input++) {
                Check.due("input " + input + name, in(board, input), 0x11 * (input + 1));
            }
        }
    }

    private static void outLeavesRegisters() {
        for (int port = 0; port < 8; port++) {
            InvaderBoard board = Boards.poised(0x99D7, 0x2211, 0x4433, 0x6655, 0x8877, 0xD3, port);
            board.step();
            int[] want = {0x22, 0x11, 0x44, 0x33, 0x66, 0x55, 0xD7, 0x99, 0x8877, Boards.PLACE + 2, 0, 0};
            for (int r = 0; r < 12; r++) {
                Check.due("register " + r + " behind OUT " + port, board.register(r), want[r]);
            }
        }
    }
}
