/** Promise 6, run; frames, requests and the watchdog over many states. */
public final class RunTest {
    private static final int MIDDLE = 16667;
    private static final int FRAME = 33333;

    public static void main(String[] args) {
        answers();
        wrong();
        requestsOfAFrame();
        statesBeyondStay();
        requestIsTaken();
        requestWhileHalted();
        requestIsReplaced();
        enabling();
        enablingTwice();
        enablingWhereEnabled();
        disabling();
        watchdog();
        watchdogFed();
        watchdogFedAtTheFramesEnd();
        watchdogEndsAHalt();
        Check.finish();
    }

    private static void answers() {
        InvaderBoard board = new InvaderBoard();
        Check.due("one state", board.run(1), 4);
        Check.due("four states", board.run(4), 4);
        Check.due("five states", board.run(5), 8);
        Check.due("states", board.state(Boards.STATES), 16);
        Check.due("PC", board.register(Boards.PC), 4);
        Check.due("most states", board.run(40000), 40000);
        Check.due("states of the next frame", board.state(Boards.STATES), 40016 - FRAME);
        board = Boards.with(0xE3, 0xC3, 0x00, 0x00);
        Check.due("18 + 10 + 18", board.run(29), 46);
        board = Boards.with(0x76);
        Check.due("HLT", board.run(3), 7);
        Check.due("wait", board.run(12345), 12345);
        Check.due("states", board.state(Boards.STATES), 12352);
    }

    private static void wrong() {
        InvaderBoard board = new InvaderBoard();
        int[] states = {0, -1, 40001, Integer.MIN_VALUE, Integer.MAX_VALUE};
        for (int n : states) {
            Check.illegal("run " + n, () -> board.run(n));
        }
        Check.due("nothing ran", board.state(Boards.STATES), 0);
    }

    private static void requestsOfAFrame() {
        InvaderBoard board = Boards.stepped(1, 0x76);
        board.run(MIDDLE - 8);
        Check.due("before the middle", board.state(Boards.REQUEST), 0);
        Check.due("states before", board.state(Boards.STATES), MIDDLE - 1);
        board.step();
        Check.due("at the middle", board.state(Boards.REQUEST), 1);
        Check.due("states at", board.state(Boards.STATES), MIDDLE);
        board.run(FRAME - MIDDLE - 1);
        Check.due("before the end", board.state(Boards.REQUEST), 1);
        Check.due("frames before", board.state(Boards.FRAMES), 0);
        Check.due("states before the end", board.state(Boards.STATES), FRAME - 1);
        board.step();
        Check.due("at the end", board.state(Boards.REQUEST), 2);
        Check.due("frames at the end", board.state(Boards.FRAMES), 1);
        Check.due("states of the new frame", board.state(Boards.STATES), 0);
        board.run(MIDDLE);
        Check.due("again", board.state(Boards.REQUEST), 1);
    }

    private static void statesBeyondStay() {
        InvaderBoard board = Boards.with(0xC3, 0x00, 0x00);
        board.run(16661);
        Check.due("behind the middle", board.state(Boards.STATES), 16670);
        Check.due("request 1", board.state(Boards.REQUEST), 1);
        board.run(16670);
        Check.due("behind the end", board.state(Boards.STATES), 33340 - FRAME);
        Check.due("request 2", board.state(Boards.REQUEST), 2);
    }

    /** EI, NOP, JMP 1; a handler at 8 that returns with an EI. */
    private static InvaderBoard looping() {
        InvaderBoard board = Boards.with(0xFB, 0x00, 0xC3, 0x01, 0x00);
        Boards.loadAt(board, 8, 0x04, 0xFB, 0xC9);
        Boards.loadAt(board, 16, 0x0C, 0xFB, 0xC9);
        return board;
    }

    private static void requestIsTaken() {
        InvaderBoard board = looping();
        while (board.state(Boards.REQUEST) == 0) {
            board.run(16600 - board.state(Boards.STATES) > 0 ? 16600 - board.state(Boards.STATES) : 1);
        }
        int pc = board.register(Boards.PC);
        int states = board.state(Boards.STATES);
        Check.due("taken", board.step(), 11);
        Check.due("PC", board.register(Boards.PC), 8);
        Check.due("disabled", board.register(Boards.ENABLED), 0);
        Check.due("request", board.state(Boards.REQUEST), 0);
        Check.due("SP", board.register(Boards.SP), 0xFFFE);
        Check.due("pushed", board.memory(0xFFFE), pc);
        Check.due("states", board.state(Boards.STATES), states + 11);
        Boards.steps(board, 3);
        Check.due("back", board.register(Boards.PC), pc);
        Check.due("enabled again", board.register(Boards.ENABLED), 1);
        Check.due("handled", board.register(Boards.B), 1);
        Boards.pass(board, 4 * FRAME);
        Check.due("handlers of the middle", board.register(Boards.B), 5);
        Check.due("handlers of the end", board.register(Boards.C), 4);
    }

    private static void requestWhileHalted() {
        InvaderBoard board = Boards.with(0xFB, 0x76, 0x14);
        Boards.loadAt(board, 8, 0xC9);
        Boards.steps(board, 2);
        Check.due("enabled behind HLT", board.register(Boards.ENABLED), 1);
        Check.due("wait up to the request", board.run(MIDDLE - 11), MIDDLE - 11);
        Check.due("still halted", board.register(Boards.HALTED), 1);
        Check.due("waits", board.state(Boards.REQUEST), 1);
        Check.due("taken", board.step(), 11);
        Check.due("no longer halted", board.register(Boards.HALTED), 0);
        Check.due("pushed", board.memory(0xFFFE), 2);
        Boards.steps(board, 2);
        Check.due("goes on behind HLT", board.register(Boards.D), 1);

        board = Boards.with(0xFB, 0x76, 0x14);
        Boards.loadAt(board, 8, 0xC9);
        Check.due("a run over wait, request and handler", board.run(MIDDLE + 11 + 10 + 1), MIDDLE + 11 + 10 + 5);
    }

    private static void requestIsReplaced() {
        InvaderBoard board = Boards.with(0xC3, 0x00, 0x00);
        board.run(FRAME + 20);
        Check.due("replaced", board.state(Boards.REQUEST), 2);
        Boards.loadAt(board, 0, 0xFB, 0x00, 0x00);
        Boards.steps(board, 2);
        Check.due("not taken behind EI", board.register(Boards.PC), 2);
        board.step();
        Check.due("the newer one is taken", board.register(Boards.PC), 16);
        board.step();
        Check.due("no other waits", board.register(Boards.PC), 17);
    }

    /** A board with a request that waits, at the start of a program. */
    private static InvaderBoard requested(int... bytes) {
        InvaderBoard board = Boards.with(0xC3, 0x00, 0x00);
        board.run(MIDDLE);
        Boards.loadAt(board, 0, bytes);
        return board;
    }

    private static void enabling() {
        InvaderBoard board = requested(0xFB, 0x3C, 0x3C);
        Check.due("disabled: request waits", board.state(Boards.REQUEST), 1);
        board.step();
        Check.due("behind EI still 0", board.register(Boards.ENABLED), 0);
        board.step();
        Check.due("behind the next 1", board.register(Boards.ENABLED), 1);
        Check.due("the next was done", board.register(Boards.A), 1);
        Check.due("taken", board.step(), 11);
        Check.due("only one was done", board.register(Boards.A), 1);

        board = Boards.stepped(2, 0xFB, 0x00, 0xFB, 0x00);
        board.step();
        Check.due("EI where they are enabled", board.register(Boards.ENABLED), 1);
        board.step();
        Check.due("and behind it", board.register(Boards.ENABLED), 1);
    }

    private static void enablingTwice() {
        InvaderBoard board = requested(0xFB, 0xFB, 0x3C);
        Boards.loadAt(board, 8, 0x00, 0x00);
        board.step();
        Check.due("behind the first EI", board.register(Boards.ENABLED), 0);
        board.step();
        Check.due("behind the second EI", board.register(Boards.ENABLED), 1);
        board.step();
        Check.due("taken", board.register(Boards.PC), 8);
        Boards.steps(board, 2);
        Check.due("the second EI has no effect left", board.register(Boards.ENABLED), 0);
    }

    /** An EI that finds them enabled has no effect left when a request comes right behind it. */
    private static void enablingWhereEnabled() {
        InvaderBoard board = Boards.with(0x00, 0xFB, 0xC3, 0x01, 0x00);
        Check.due("the middle falls into an EI", board.run(MIDDLE), MIDDLE + 1);
        Check.due("enabled", board.register(Boards.ENABLED), 1);
        board.step();
        Check.due("taken", board.register(Boards.PC), 8);
        Boards.steps(board, 2);
        Check.due("disabled in the handler", board.register(Boards.ENABLED), 0);
    }

    private static void disabling() {
        InvaderBoard board = requested(0xFB, 0xF3, 0x00, 0x00);
        Boards.steps(board, 4);
        Check.due("DI behind EI", board.register(Boards.ENABLED), 0);
        Check.due("not taken", board.register(Boards.PC), 4);
        Check.due("the request waits", board.state(Boards.REQUEST), 1);
        board = Boards.stepped(3, 0xFB, 0x00, 0xF3, 0x00);
        Check.due("DI", board.register(Boards.ENABLED), 0);
    }

    private static void watchdog() {
        InvaderBoard board = Boards.with(0x3E, 0x05, 0x3C, 0xD3, 0x03, 0xD3, 0x04, 0xC3, 0x02, 0x00);
        for (int frame = 0; frame < 16; frame++) {
            Check.due("unfed", board.state(Boards.UNFED), frame);
            while (board.state(Boards.FRAMES) == frame) {
                board.run(Math.max(1, FRAME - 20 - board.state(Boards.STATES)));
            }
        }
        Check.due("frames", board.state(Boards.FRAMES), 16);
        Check.due("fed by the reset", board.state(Boards.UNFED), 0);
        Check.due("PC", board.register(Boards.PC), 0);
        Check.due("A", board.register(Boards.A), 0);
        Check.due("flags", board.register(Boards.FLAGS), 2);
        Check.due("latch", board.state(Boards.LATCH_3), 0);
        Check.due("shifter", board.state(Boards.SHIFTED), 0);
        Check.due("no request", board.state(Boards.REQUEST), 0);
        Check.due("sounds stay", board.sounds(0) > 0 ? 1 : 0, 1);

        board = Boards.with(0xC3, 0x00, 0x00);
        Boards.pass(board, 16 * FRAME + 2);
        Check.due("states beyond stay", board.state(Boards.STATES), 2);
        Check.due("reset once", board.state(Boards.UNFED), 0);
        Boards.pass(board, 15 * FRAME);
        Check.due("15 more", board.state(Boards.UNFED), 15);
    }

    /** OUT 6 once in the sixteenth frame. */
    private static void watchdogFed() {
        InvaderBoard board = Boards.with(0xC3, 0x00, 0x00);
        Boards.pass(board, 15 * FRAME + 5);
        Check.due("unfed", board.state(Boards.UNFED), 15);
        Boards.loadAt(board, 0, 0x3C, 0xD3, 0x06, 0x76);
        Boards.steps(board, 3);
        Check.due("fed", board.state(Boards.UNFED), 0);
        Boards.pass(board, FRAME);
        Check.due("the frame of the feeding counts", board.state(Boards.UNFED), 1);
        Check.due("not reset", board.register(Boards.A), 1);
        Boards.pass(board, 14 * FRAME);
        Check.due("15 frames", board.state(Boards.UNFED), 15);
        Check.due("not yet", board.register(Boards.A), 1);
        Boards.loadAt(board, 0, 0x76);
        Boards.pass(board, FRAME);
        Check.due("16 frames", board.register(Boards.A), 0);
    }

    /** The OUT 6 that ends a frame was in that frame. */
    private static void watchdogFedAtTheFramesEnd() {
        InvaderBoard board = Boards.with(0xC3, 0x00, 0x00);
        while (board.state(Boards.STATES) < FRAME - 10) {
            board.run(Math.max(1, FRAME - 13 - board.state(Boards.STATES)));
        }
        Boards.loadAt(board, 0, 0xD3, 0x06);
        board.step();
        Check.due("frames", board.state(Boards.FRAMES), 1);
        Check.due("its frame counts", board.state(Boards.UNFED), 1);
    }

    private static void watchdogEndsAHalt() {
        InvaderBoard board = Boards.with(0x3C, 0x76);
        Boards.pass(board, 16 * FRAME - 1);
        Check.due("halted", board.register(Boards.HALTED), 1);
        Check.due("wait", board.step(), 1);
        Check.due("reset", board.register(Boards.HALTED), 0);
        Check.due("frames", board.state(Boards.FRAMES), 16);
        Check.due("states", board.state(Boards.STATES), 0);
        Check.due("from the start", board.step(), 5);
        board = Boards.with(0x3C, 0x76);
        Boards.pass(board, 16 * FRAME - 100);
        Check.due("a run goes on behind the reset", board.run(101), 105);
        Check.due("A", board.register(Boards.A), 1);
    }
}
