/** The watchdog: 16 frames, and what its reset does. */
public final class WatchdogTest {
    private static final int FRAME = Boards.FRAME;
    private static final int END = 16 * FRAME;
    private static final int HLT = 0x76;

    public static void main(String[] args) {
        Check.of(Sentence.WATCHDOG);
        framesOnANewBoard();
        resetAtTheEndAndNotBefore();
        statesBeyondStay();
        whatTheLastInstructionDid();
        whatIsCleared();
        whatStays();
        requestOfTheEndIsGone();
        enablingIsGone();
        haltIsGone();
        fedInItsLastFrame();
        frameOfTheFeedingCounts();
        fedByTheInstructionThatEndsAFrame();
        fedByTheResetItself();
        fedByReset();
        runGoesOn();
        takenRequestEndsTheLastFrame();
        Check.finish();
    }

    private static void framesOnANewBoard() {
        InvaderBoard board = Boards.stepped(1, HLT);
        Boards.pass(board, FRAME - 8);
        for (int frame = 0; frame < 15; frame++) {
            Check.due("before the end of frame " + frame, board.state(Boards.UNFED), frame);
            board.step();
            Check.due("behind the end of frame " + frame, board.state(Boards.UNFED), frame + 1);
            Boards.pass(board, FRAME - 1);
        }
        Check.due("before the end of the sixteenth", board.state(Boards.UNFED), 15);
        board.step();
        Check.due("behind the end of the sixteenth", board.state(Boards.UNFED), 0);
        Check.due("frames", board.state(Boards.FRAMES), 16);
    }

    private static void resetAtTheEndAndNotBefore() {
        InvaderBoard board = Boards.atState(END - 5, 0x00, 0x00);
        board.step();
        Check.due("one state before: PC", board.register(Boards.PC), Boards.PLACE + 1);
        Check.due("one state before: frames", board.state(Boards.FRAMES), 15);
        board.step();
        Check.due("behind: PC", board.register(Boards.PC), 0);
        Check.due("behind: frames", board.state(Boards.FRAMES), 16);
        Check.due("behind: states", board.state(Boards.STATES), 3);
        board = Boards.atState(END - 4, 0x00, 0x00);
        board.step();
        Check.due("at the end: PC", board.register(Boards.PC), 0);
        Check.due("at the end: states", board.state(Boards.STATES), 0);
    }

    private static void statesBeyondStay() {
        for (int before = 1; before <= 18; before++) {
            InvaderBoard board = Boards.atState(END - before, 0xE3);
            Check.due("XTHL " + before + " before the end", board.step(), 18);
            Check.due("states beyond", board.state(Boards.STATES), 18 - before);
            Check.due("PC", board.register(Boards.PC), 0);
            Check.due("unfed", board.state(Boards.UNFED), 0);
        }
    }

    /** What it wrote and the sounds that it made are there, what it put into registers is not. */
    private static void whatTheLastInstructionDid() {
        InvaderBoard board = Boards.atState(END - 7 - 1, 0x3E, 0x55, 0x32, 0x00, 0x24);
        Boards.steps(board, 2);
        Check.due("STA", board.memory(0x2400), 0x55);
        Check.due("A", board.register(Boards.A), 0);
        board = Boards.atState(END - 7 - 1, 0x3E, 0x55, 0xD3, 0x03);
        Boards.steps(board, 2);
        Check.due("the sound", board.sounds(0), 1);
        Check.due("the latch", board.state(Boards.LATCH_3), 0);
        board = Boards.atState(END - 1, 0xCD, 0x34, 0x12);
        board.step();
        Check.due("pushed by CALL", board.memory(65534), Boards.PLACE + 3);
        Check.due("PC", board.register(Boards.PC), 0);
        Check.due("SP", board.register(Boards.SP), 0);
    }

    /** At the end of the sixteenth frame, just behind a program that leaves something everywhere. */
    private static InvaderBoard usedAndReset() {
        InvaderBoard board = Boards.atState(END - 109, 0x01, 0x11, 0x22, 0x11, 0x33, 0x44, 0x21, 0x00, 0x24, 0x31, 0xF0, 0x23,
            0x3E, 0xFF, 0xD3, 0x02, 0xD3, 0x03, 0xD3, 0x04, 0xD3, 0x05, 0x77, 0xC6, 0x81, 0xFB, HLT);
        Boards.steps(board, 12);
        Check.due("before HLT", board.state(Boards.STATES), FRAME - 4);
        Check.due("B before", board.register(Boards.B), 0x22);
        Check.due("latch before", board.state(Boards.LATCH_5), 255);
        Check.due("shifter before", board.state(Boards.SHIFTED), 128);
        board.step();
        return board;
    }

    private static void whatIsCleared() {
        InvaderBoard board = usedAndReset();
        for (int r = 0; r < 12; r++) {
            Check.due("register " + r, board.register(r), r == Boards.FLAGS ? 2 : 0);
        }
        int[] empty = {Boards.LATCH_3, Boards.LATCH_5, Boards.REQUEST, Boards.UNFED, Boards.SHIFTED};
        for (int what : empty) {
            Check.due("state " + what, board.state(what), 0);
        }
        Boards.loadAt(board, 0, 0x3E, 0x81, 0xD3, 0x04);
        Boards.steps(board, 2);
        Check.due("no offset, an empty shifter", board.state(Boards.SHIFTED), 0x81);
    }

    private static void whatStays() {
        InvaderBoard board = usedAndReset();
        Check.due("frames", board.state(Boards.FRAMES), 16);
        Check.due("states", board.state(Boards.STATES), 3);
        Check.due("RAM", board.memory(0x2400), 255);
        Check.due("ROM", board.memory(Boards.PLACE), 0x01);
        for (int bit = 0; bit < 16; bit++) {
            Check.due("sound " + bit, board.sounds(bit), 1);
        }
        board = Boards.atState(END - 4, 0x00);
        board.input(1, 99);
        board.step();
        Boards.loadAt(board, 0, 0xDB, 0x01);
        board.step();
        Check.due("input", board.register(Boards.A), 99);
    }

    private static void requestOfTheEndIsGone() {
        InvaderBoard board = Boards.atState(END - 4, 0x00);
        Check.due("RST 1 waits", board.state(Boards.REQUEST), 1);
        board.step();
        Check.due("none waits", board.state(Boards.REQUEST), 0);
        Boards.loadAt(board, 0, 0xFB, 0x00, 0x00);
        Boards.steps(board, 3);
        Check.due("none is taken", board.register(Boards.PC), 3);
    }

    private static void enablingIsGone() {
        InvaderBoard board = Boards.atState(END - 4, 0xFB, 0x00);
        board.step();
        Boards.loadAt(board, 0, 0x00, 0x00);
        Boards.steps(board, 2);
        Check.due("an EI at the end", board.register(Boards.ENABLED), 0);
        board = Boards.atState(END - 8, 0xFB, 0x00);
        Boards.steps(board, 2);
        Check.due("an EI before the end", board.register(Boards.ENABLED), 0);
    }

    private static void haltIsGone() {
        InvaderBoard board = Boards.atState(END - 8, HLT);
        board.step();
        Check.due("halted", board.register(Boards.HALTED), 1);
        Check.due("one state", board.step(), 1);
        Check.due("no longer", board.register(Boards.HALTED), 0);
        Boards.loadAt(board, 0, 0x3C);
        Check.due("from 0 on", board.step(), 5);
        board = Boards.atState(END - 7, HLT);
        board.step();
        Check.due("HLT at the end", board.register(Boards.HALTED), 0);
    }

    private static void fedInItsLastFrame() {
        InvaderBoard board = Boards.atState(END - 15, 0xD3, 0x06, 0x7F, HLT);
        Check.due("unfed", board.state(Boards.UNFED), 15);
        board.step();
        Check.due("fed", board.state(Boards.UNFED), 0);
        board.step();
        Check.due("no reset", board.register(Boards.PC), Boards.PLACE + 3);
        Check.due("its frame counts", board.state(Boards.UNFED), 1);
        board.step();
        Boards.pass(board, 15 * FRAME - 8);
        Check.due("before the sixteenth end", board.register(Boards.HALTED), 1);
        Check.due("unfed again", board.state(Boards.UNFED), 15);
        board.step();
        Check.due("the sixteenth end", board.register(Boards.PC), 0);
        Check.due("frames", board.state(Boards.FRAMES), 31);
    }

    /** Fed at the start of a frame, in its middle or near its end: the reset comes at the same end. */
    private static void frameOfTheFeedingCounts() {
        for (int states : new int[] {0, 1, 16667, 33322}) {
            InvaderBoard board = Boards.atState(3 * FRAME + states, 0xD3, 0x06, HLT);
            Check.due("unfed", board.state(Boards.UNFED), 3);
            Boards.steps(board, 2);
            int left = 19 * FRAME - (3 * FRAME + states + 17);
            Boards.pass(board, left - 1);
            Check.due("one state before", board.register(Boards.HALTED), 1);
            Check.due("frames", board.state(Boards.FRAMES), 18);
            board.step();
            Check.due("reset", board.register(Boards.HALTED), 0);
            Check.due("frames then", board.state(Boards.FRAMES), 19);
        }
    }

    private static void fedByTheInstructionThatEndsAFrame() {
        for (int before = 1; before <= 10; before++) {
            InvaderBoard board = Boards.atState(END - before, 0xD3, 0x06, 0x00);
            board.step();
            Check.due("no reset", board.register(Boards.PC), Boards.PLACE + 2);
            Check.due("the frame that it ended counts", board.state(Boards.UNFED), 1);
            Check.due("states", board.state(Boards.STATES), 10 - before);
            Check.due("RST 2 waits", board.state(Boards.REQUEST), 2);
        }
    }

    private static void fedByTheResetItself() {
        InvaderBoard board = Boards.atState(END, 0x00);
        Check.due("unfed", board.state(Boards.UNFED), 0);
        Boards.loadAt(board, 0, HLT);
        Boards.pass(board, END - 1);
        Check.due("15 more", board.state(Boards.UNFED), 15);
        Check.due("halted", board.register(Boards.HALTED), 1);
        board.step();
        Check.due("the next reset", board.register(Boards.HALTED), 0);
        Check.due("frames", board.state(Boards.FRAMES), 32);
    }

    private static void fedByReset() {
        InvaderBoard board = Boards.atState(END - 20, 0x00);
        board.reset();
        Check.due("fed", board.state(Boards.UNFED), 0);
        Boards.loadAt(board, 0, HLT);
        Boards.pass(board, END - 1);
        Check.due("one state before", board.register(Boards.HALTED), 1);
        Check.due("unfed", board.state(Boards.UNFED), 15);
        board.step();
        Check.due("16 frames behind the reset", board.register(Boards.HALTED), 0);
        Check.due("frames", board.state(Boards.FRAMES), 31);
    }

    private static void runGoesOn() {
        InvaderBoard board = Boards.atState(END - 100, HLT);
        Boards.loadAt(board, 0, 0x3C, HLT);
        Check.due("HLT, a wait, INR, HLT", board.run(100 + 5 + 1), 100 + 5 + 7);
        Check.due("A", board.register(Boards.A), 1);
        Check.due("states", board.state(Boards.STATES), 12);
        Check.due("halted again", board.register(Boards.HALTED), 1);
    }

    /** The 11 states of a request that is taken may end the sixteenth frame. */
    private static void takenRequestEndsTheLastFrame() {
        InvaderBoard board = Boards.atState(END - 8 - 4, 0xFB, 0x00);
        Boards.steps(board, 2);
        Check.due("enabled", board.register(Boards.ENABLED), 1);
        Check.due("taken", board.step(), 11);
        Check.due("PC", board.register(Boards.PC), 0);
        Check.due("SP", board.register(Boards.SP), 0);
        Check.due("pushed", board.memory(65534), Boards.PLACE + 2);
        Check.due("states", board.state(Boards.STATES), 7);
        Check.due("request", board.state(Boards.REQUEST), 0);
    }
}
