/** Promise 1, a new object; promise 3, reset. */
public final class NewAndResetTest {
    public static void main(String[] args) {
        Check.of(Sentence.NEW_OBJECT);
        newRegistersAndState();
        newMemory();
        newBoardsShareNothing();
        Check.of(Sentence.RESET);
        resetOfANewBoard();
        resetBeginsFrameAnew();
        resetBeforeAFramesEnd();
        Check.of(Sentence.CLEARED_BY_A_RESET);
        resetClearsTheBoard();
        resetClearsShifterAndOffset();
        resetDropsRequest();
        resetDropsEnabling();
        resetEndsAHalt();
        resetFeeds();
        Check.of(Sentence.KEPT_OVER_A_RESET);
        resetLeavesRest();
        Check.finish();
    }

    private static void newRegistersAndState() {
        InvaderBoard board = new InvaderBoard();
        cleared("new", board);
        Check.due("new frames", board.state(Boards.FRAMES), 0);
        Check.due("new states", board.state(Boards.STATES), 0);
        for (int bit = 0; bit < 16; bit++) {
            Check.due("new sound " + bit, board.sounds(bit), 0);
        }
    }

    /** What a reset and a new board have in common. */
    private static void cleared(String name, InvaderBoard board) {
        for (int r = 0; r < 12; r++) {
            Check.due(name + " register " + r, board.register(r), r == Boards.FLAGS ? 2 : 0);
        }
        int[] empty = {Boards.LATCH_3, Boards.LATCH_5, Boards.REQUEST, Boards.UNFED, Boards.SHIFTED};
        for (int what : empty) {
            Check.due(name + " state " + what, board.state(what), 0);
        }
    }

    private static void newMemory() {
        for (int from = 0; from < 65536; from += 500) {
            InvaderBoard board = new InvaderBoard();
            for (int i = from; i < from + 500; i++) {
                Check.due("new memory " + i, board.memory(i), 0);
            }
        }
        Check.due("new screen", new InvaderBoard().lit(0, 0, 224, 256), 0);
    }

    /** A program that leaves something in all that a reset clears. */
    private static InvaderBoard used() {
        InvaderBoard board = Boards.with(
            0x01, 0x11, 0x22, 0x11, 0x33, 0x44, 0x21, 0x00, 0x24, 0x31, 0xF0, 0x23,
            0x3E, 0xFF, 0xD3, 0x02, 0xD3, 0x03, 0xD3, 0x04, 0xD3, 0x04, 0xD3, 0x05,
            0x77, 0xC6, 0x81, 0xFB, 0x76);
        Boards.steps(board, 14);
        return board;
    }

    private static void resetClearsTheBoard() {
        InvaderBoard board = used();
        Check.due("halted before", board.register(Boards.HALTED), 1);
        Check.due("enabled before", board.register(Boards.ENABLED), 1);
        Check.due("latch before", board.state(Boards.LATCH_3), 255);
        Check.due("latch 5 before", board.state(Boards.LATCH_5), 255);
        Check.due("shifter before", board.state(Boards.SHIFTED), 255);
        board.reset();
        cleared("reset", board);
        Check.due("reset states", board.state(Boards.STATES), 0);
    }

    private static void resetLeavesRest() {
        InvaderBoard board = used();
        board.input(1, 77);
        board.poke(0x2000, 12);
        board.reset();
        Boards.loadAt(board, 0, 0x76);
        Boards.pass(board, 33333);
        Check.due("frame ended", board.state(Boards.FRAMES), 1);
        board.reset();
        Check.due("frames stay", board.state(Boards.FRAMES), 1);
        Check.due("RAM stays", board.memory(0x2000), 12);
        Check.due("screen stays", board.lit(0, 0, 224, 256), 8);
        Check.due("ROM stays", board.memory(0), 0x76);
        for (int bit = 0; bit < 16; bit++) {
            Check.due("sounds stay", board.sounds(bit), 1);
        }
        Boards.loadAt(board, 0, 0xDB, 0x01);
        board.step();
        Check.due("inputs stay", board.register(Boards.A), 77);
    }

    private static void resetBeginsFrameAnew() {
        InvaderBoard board = Boards.stepped(1, 0x76);
        board.run(20000);
        Check.due("request before", board.state(Boards.REQUEST), 1);
        board.reset();
        Check.due("states", board.state(Boards.STATES), 0);
        Check.due("frames", board.state(Boards.FRAMES), 0);
        Check.due("request", board.state(Boards.REQUEST), 0);
        board.run(16666);
        Check.due("not yet", board.state(Boards.REQUEST), 0);
        board.step();
        Check.due("request of the new frame", board.state(Boards.REQUEST), 1);
    }

    /** A reset in a frame's last state: that frame never ends. */
    private static void resetBeforeAFramesEnd() {
        InvaderBoard board = Boards.stepped(1, 0x76);
        board.run(33332 - 7);
        board.reset();
        Check.due("states", board.state(Boards.STATES), 0);
        board.step();
        Check.due("states of HLT", board.state(Boards.STATES), 7);
        board.run(33332 - 7);
        Check.due("frames", board.state(Boards.FRAMES), 0);
        board.step();
        Check.due("frames at the end", board.state(Boards.FRAMES), 1);
    }

    private static void resetOfANewBoard() {
        InvaderBoard board = new InvaderBoard();
        board.reset();
        board.reset();
        cleared("reset when new", board);
        Check.due("frames", board.state(Boards.FRAMES), 0);
        Check.due("states", board.state(Boards.STATES), 0);
        Check.due("no states for a reset", board.step(), 4);
    }

    private static void newBoardsShareNothing() {
        InvaderBoard one = used();
        one.input(0, 255);
        InvaderBoard other = new InvaderBoard();
        cleared("another", other);
        Check.due("its screen", other.lit(0, 0, 224, 256), 0);
        Check.due("its ROM", other.memory(0), 0);
        Check.due("its sounds", other.sounds(0), 0);
        other.load(0, 0xDB00, 2);
        other.step();
        Check.due("its input", other.register(Boards.A), 0);
        Check.due("the first one's ROM", one.memory(0), 0x01);
    }

    /** Both are seen only when the other is set again. */
    private static void resetClearsShifterAndOffset() {
        int[] fill = {0x3E, 0xFF, 0xD3, 0x02, 0xD3, 0x04, 0xD3, 0x04};
        InvaderBoard board = Boards.stepped(4, fill);
        Check.due("before", board.state(Boards.SHIFTED), 255);
        board.reset();
        Boards.loadAt(board, 0, 0x3E, 0x07, 0xD3, 0x02);
        Boards.steps(board, 2);
        Check.due("the shifter's both halves", board.state(Boards.SHIFTED), 0);
        board = Boards.stepped(4, fill);
        board.reset();
        Boards.loadAt(board, 0, 0x3E, 0x81, 0xD3, 0x04);
        Boards.steps(board, 2);
        Check.due("the offset", board.state(Boards.SHIFTED), 0x81);
    }

    private static void resetDropsRequest() {
        for (int states : new int[] {16667, 33333}) {
            InvaderBoard board = Boards.atState(states, 0x00);
            Check.due("before", board.state(Boards.REQUEST), states == 16667 ? 1 : 2);
            board.reset();
            Check.due("none", board.state(Boards.REQUEST), 0);
            Boards.loadAt(board, 0, 0xFB, 0x00, 0x00);
            Boards.steps(board, 3);
            Check.due("none is taken", board.register(Boards.PC), 3);
        }
    }

    private static void resetDropsEnabling() {
        InvaderBoard board = Boards.stepped(1, 0xFB, 0x00);
        board.reset();
        Boards.loadAt(board, 0, 0x00);
        Boards.steps(board, 2);
        Check.due("an EI before a reset is lost", board.register(Boards.ENABLED), 0);
        board = Boards.stepped(2, 0xFB, 0x00);
        board.reset();
        Check.due("disabled", board.register(Boards.ENABLED), 0);
    }

    private static void resetEndsAHalt() {
        InvaderBoard board = Boards.stepped(2, 0x3C, 0x76);
        board.step();
        board.reset();
        Check.due("not halted", board.register(Boards.HALTED), 0);
        Check.due("INR A", board.step(), 5);
        Check.due("A", board.register(Boards.A), 1);
    }

    private static void resetFeeds() {
        InvaderBoard board = Boards.stepped(1, 0x76);
        Boards.pass(board, 33333 * 15);
        Check.due("unfed", board.state(Boards.UNFED), 15);
        board.reset();
        Check.due("fed", board.state(Boards.UNFED), 0);
        Boards.pass(board, 33333 * 15);
        Check.due("15 frames later", board.register(Boards.HALTED), 1);
        Check.due("unfed then", board.state(Boards.UNFED), 15);
    }
}
