/** Promise 7, register. */
public final class RegisterTest {
    public static void main(String[] args) {
        Check.of(Sentence.REGISTER);
        each();
        full();
        flags();
        interruptsAndHalt();
        enablingFoundDisabled();
        Check.of(Sentence.REGISTER_REFUSED);
        wrong();
        Check.finish();
    }

    private static void each() {
        InvaderBoard board = Boards.stepped(9,
            0x06, 0x11, 0x0E, 0x22, 0x16, 0x33, 0x1E, 0x44, 0x26, 0x55, 0x2E, 0x66, 0x3E, 0x77, 0x31, 0x99, 0x88);
        int[] want = {0x11, 0x22, 0x33, 0x44, 0x55, 0x66, 2, 0x77, 0x8899, 18, 0, 0};
        for (int r = 0; r < want.length; r++) {
            Check.due("register " + r, board.register(r), want[r]);
        }
    }

    /** The largest content of each. */
    private static void full() {
        InvaderBoard board = Boards.poised(0xFFFF, 0xFFFF, 0xFFFF, 0xFFFF, 0xFFFF, 0xC3, 0xFF, 0xFF);
        board.step();
        int[] want = {255, 255, 255, 255, 255, 255, 0xD7, 255, 65535, 65535, 0, 0};
        for (int r = 0; r < want.length; r++) {
            Check.due("full register " + r, board.register(r), want[r]);
        }
    }

    /** The byte as POP PSW leaves it: bits 5, 3 are 0 and bit 1 is 1. */
    private static void flags() {
        for (int byteOfFlags = 0; byteOfFlags < 256; byteOfFlags++) {
            InvaderBoard board = Boards.with(0x31, 0x00, 0x20, 0xF1);
            board.poke(0x2000, byteOfFlags);
            Boards.steps(board, 2);
            Check.due("flags", board.register(Boards.FLAGS), byteOfFlags & 0xD7 | 2);
        }
    }

    private static void interruptsAndHalt() {
        InvaderBoard board = Boards.with(0xFB, 0x00, 0xF3, 0x76);
        int[] enabled = {0, 1, 0, 0};
        for (int i = 0; i < 4; i++) {
            Check.due("not halted", board.register(Boards.HALTED), 0);
            board.step();
            Check.due("enabled behind step " + i, board.register(Boards.ENABLED), enabled[i]);
        }
        Check.due("halted", board.register(Boards.HALTED), 1);
    }

    /** Behind an EI that found them enabled it is still 1, behind one that found them disabled still 0. */
    private static void enablingFoundDisabled() {
        InvaderBoard board = Boards.with(0xFB, 0x00, 0xFB, 0xF3, 0xFB, 0xF3, 0x00);
        int[] enabled = {0, 1, 1, 0, 0, 0, 0};
        for (int i = 0; i < enabled.length; i++) {
            board.step();
            Check.due("enabled behind instruction " + i, board.register(Boards.ENABLED), enabled[i]);
        }
    }

    private static void wrong() {
        InvaderBoard board = new InvaderBoard();
        int[] numbers = {-1, 12, 13, 256, Integer.MIN_VALUE, Integer.MAX_VALUE};
        for (int r : numbers) {
            Check.illegal("register " + r, () -> board.register(r));
        }
    }
}
