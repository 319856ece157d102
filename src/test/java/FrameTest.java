/** Frames, the requests that they make, EI, DI and HLT, at the edges that the document names. */
public final class FrameTest {
    private static final int MIDDLE = Boards.MIDDLE;
    private static final int FRAME = Boards.FRAME;
    private static final int EI = 0xFB;
    private static final int DI = 0xF3;
    private static final int HLT = 0x76;
    private static final int NOP = 0x00;
    private static final int INR_A = 0x3C;

    /** A code for each number of states that an instruction can have, with that number. */
    private static final int[][] LONG = {
        {NOP, 4}, {0x7F, 5}, {HLT, 7}, {0xC3, 10}, {0xC7, 11}, {0x3A, 13}, {0x2A, 16}, {0xCD, 17}, {0xE3, 18}};

    public static void main(String[] args) {
        Check.of(Sentence.STATES_OF_A_FRAME);
        framesOfAWait();
        Check.of(Sentence.REQUESTS_OF_A_FRAME);
        stateBeforeAtAndBehind();
        everyInstructionOverTheMiddle();
        everyInstructionOverTheEnd();
        beyondBelongsToTheNextFrame();
        requestedOnceAFrame();
        addressesOfRequests();
        aTakenRequestOverTheEdges();
        Check.of(Sentence.REQUEST_WAITS);
        waitsWhileDisabled();
        replacedByTheOther();
        takenOnlyOnce();
        Check.of(Sentence.REQUEST_IS_TAKEN);
        takenAsRst();
        notTakenWhileDisabled();
        takenBetweenInstructions();
        takenOverTheStacksEnd();
        notInsideItsHandler();
        Check.of(Sentence.ENABLING);
        enabledBehindEveryCode();
        takenBehindTheNext();
        disabledRightBehind();
        anotherEnabling();
        manyEnablings();
        enabledAlready();
        enabledAlreadyAndTaken();
        Check.of(Sentence.HALT_WAITS);
        waitsStateByState();
        wakesForBothRequests();
        requestDuringTheHalt();
        requestThatWaitedBefore();
        runsOverAWait();
        Check.of(Sentence.HALT_WAITS_FOR_EVER);
        waitsForEver();
        Check.finish();
    }

    private static void stateIs(String name, InvaderBoard board, int states, int frames, int request) {
        Check.due(name + ": states", board.state(Boards.STATES), states);
        Check.due(name + ": frames", board.state(Boards.FRAMES), frames);
        Check.due(name + ": request", board.state(Boards.REQUEST), request);
    }

    private static void framesOfAWait() {
        InvaderBoard board = Boards.stepped(1, HLT);
        board.run(FRAME - 7 - 1);
        for (int frame = 0; frame < 3; frame++) {
            stateIs("the last state but one of frame " + frame, board, FRAME - 1, frame, 1);
            board.step();
            stateIs("the end of frame " + frame, board, 0, frame + 1, 2);
            board.run(FRAME - 1);
        }
    }

    private static void stateBeforeAtAndBehind() {
        InvaderBoard board = Boards.atState(MIDDLE - 5, NOP, NOP);
        board.step();
        stateIs("an end at 16666", board, MIDDLE - 1, 0, 0);
        board = Boards.atState(MIDDLE - 4, NOP, NOP);
        board.step();
        stateIs("an end at 16667", board, MIDDLE, 0, 1);
        board = Boards.atState(MIDDLE - 3, NOP, NOP);
        board.step();
        stateIs("an end at 16668", board, MIDDLE + 1, 0, 1);
        board = Boards.atState(FRAME - 5, NOP, NOP);
        board.step();
        stateIs("an end at 33332", board, FRAME - 1, 0, 1);
        board = Boards.atState(FRAME - 4, NOP, NOP);
        board.step();
        stateIs("an end at 33333", board, 0, 1, 2);
        board = Boards.atState(FRAME - 3, NOP, NOP);
        board.step();
        stateIs("an end at 33334", board, 1, 1, 2);
    }

    private static void everyInstructionOverTheMiddle() {
        for (int[] instruction : LONG) {
            for (int before = 1; before <= instruction[1] + 1; before++) {
                InvaderBoard board = Boards.atState(MIDDLE - before, instruction[0]);
                String name = instruction[1] + " states from " + before + " before the middle on";
                stateIs("before " + name, board, MIDDLE - before, 0, 0);
                Check.due(name, board.step(), instruction[1]);
                stateIs(name, board, MIDDLE - before + instruction[1], 0, before <= instruction[1] ? 1 : 0);
            }
        }
    }

    private static void everyInstructionOverTheEnd() {
        for (int[] instruction : LONG) {
            for (int before = 1; before <= instruction[1] + 1; before++) {
                InvaderBoard board = Boards.atState(FRAME - before, instruction[0]);
                String name = instruction[1] + " states from " + before + " before the end on";
                stateIs("before " + name, board, FRAME - before, 0, 1);
                Check.due(name, board.step(), instruction[1]);
                if (before <= instruction[1]) {
                    stateIs(name, board, instruction[1] - before, 1, 2);
                } else {
                    stateIs(name, board, FRAME - 1, 0, 1);
                }
            }
        }
    }

    /** 17 states beyond the end bring the next middle 17 states nearer. */
    private static void beyondBelongsToTheNextFrame() {
        InvaderBoard board = Boards.atState(FRAME - 1, 0xE3, HLT);
        Boards.steps(board, 2);
        stateIs("behind XTHL, HLT", board, 17 + 7, 1, 2);
        Check.due("a wait", board.run(MIDDLE - 25), MIDDLE - 25);
        stateIs("before the middle", board, MIDDLE - 1, 1, 2);
        board.step();
        stateIs("the middle", board, MIDDLE, 1, 1);
        board.run(FRAME - MIDDLE);
        stateIs("the end", board, 0, 2, 2);
    }

    private static void requestedOnceAFrame() {
        InvaderBoard board = Boards.atState(MIDDLE - 4, EI, NOP, NOP);
        Boards.loadAt(board, 8, HLT);
        Boards.loadAt(board, 16, HLT);
        Boards.steps(board, 4);
        Check.due("in the handler", board.register(Boards.PC), 9);
        stateIs("taken", board, MIDDLE + 4 + 11 + 7, 0, 0);
        board.run(FRAME - 1 - board.state(Boards.STATES));
        stateIs("not requested again before the end", board, FRAME - 1, 0, 0);
        board.step();
        stateIs("RST 2", board, 0, 1, 2);
        board.run(MIDDLE - 1);
        stateIs("not replaced before the middle", board, MIDDLE - 1, 1, 2);
    }

    private static void addressesOfRequests() {
        InvaderBoard board = Boards.atState(MIDDLE, EI, NOP);
        Boards.steps(board, 3);
        Check.due("RST 1", board.register(Boards.PC), 8);
        board = Boards.atState(FRAME, EI, NOP);
        Boards.steps(board, 3);
        Check.due("RST 2", board.register(Boards.PC), 16);
    }

    /** The 11 states of a request that is taken may themselves end at or behind a frame's middle or end. */
    private static void aTakenRequestOverTheEdges() {
        for (int before = 1; before <= 12; before++) {
            String name = "RST 1 taken " + before + " before the end";
            InvaderBoard board = Boards.atState(FRAME - 8 - before, EI, NOP, NOP);
            Boards.steps(board, 2);
            stateIs("before " + name, board, FRAME - before, 0, 1);
            Check.due(name, board.step(), 11);
            Check.due(name + ": PC", board.register(Boards.PC), 8);
            if (before <= 11) {
                stateIs(name, board, 11 - before, 1, 2);
            } else {
                stateIs(name, board, FRAME - 1, 0, 0);
            }
            name = "RST 2 taken " + before + " before the middle";
            board = Boards.atState(FRAME + MIDDLE - 8 - before, EI, NOP, NOP);
            Boards.steps(board, 2);
            stateIs("before " + name, board, MIDDLE - before, 1, 2);
            Check.due(name, board.step(), 11);
            Check.due(name + ": PC", board.register(Boards.PC), 16);
            stateIs(name, board, MIDDLE - before + 11, 1, before <= 11 ? 1 : 0);
        }
    }

    private static void waitsWhileDisabled() {
        InvaderBoard board = Boards.atState(MIDDLE, 0xC3, Boards.PLACE, 0);
        board.run(FRAME - MIDDLE - 20);
        Check.due("near the end", board.state(Boards.REQUEST), 1);
        board = Boards.atState(FRAME, 0xC3, Boards.PLACE, 0);
        board.run(MIDDLE - 20);
        Check.due("near the middle", board.state(Boards.REQUEST), 2);
        Boards.loadAt(board, Boards.PLACE, EI, NOP);
        Boards.steps(board, 3);
        Check.due("taken in the end", board.register(Boards.PC), 16);
    }

    private static void replacedByTheOther() {
        InvaderBoard board = Boards.atState(FRAME - 1, NOP, EI, NOP, NOP);
        Check.due("RST 1 waits", board.state(Boards.REQUEST), 1);
        board.step();
        Check.due("RST 2 in its place", board.state(Boards.REQUEST), 2);
        Boards.steps(board, 3);
        Check.due("RST 2 is taken", board.register(Boards.PC), 16);
        Check.due("and no other waits", board.state(Boards.REQUEST), 0);
        board = Boards.atState(FRAME + MIDDLE - 1, NOP, EI, NOP, NOP);
        Check.due("RST 2 waits", board.state(Boards.REQUEST), 2);
        board.step();
        Check.due("RST 1 in its place", board.state(Boards.REQUEST), 1);
        Boards.steps(board, 3);
        Check.due("RST 1 is taken", board.register(Boards.PC), 8);
        Check.due("and none waits then", board.state(Boards.REQUEST), 0);
    }

    private static void takenOnlyOnce() {
        InvaderBoard board = Boards.atState(MIDDLE, EI, NOP, INR_A);
        Boards.loadAt(board, 8, EI, 0xC9);
        Boards.steps(board, 3);
        Check.due("in the handler", board.register(Boards.PC), 8);
        Boards.steps(board, 3);
        Check.due("behind it", board.register(Boards.A), 1);
        Check.due("where it was", board.register(Boards.PC), Boards.PLACE + 3);
    }

    private static void takenAsRst() {
        InvaderBoard board = Boards.atState(MIDDLE - 61, 0x31, 0x00, 0x24, 0x01, 0x22, 0x11, 0x11, 0x44, 0x33,
            0x21, 0x66, 0x55, 0x3E, 0x77, EI, 0xD6, 0x78, NOP, NOP);
        Boards.steps(board, 7);
        Check.due("states before", board.state(Boards.STATES), MIDDLE - 3);
        board.step();
        int[] want = {0x11, 0x22, 0x33, 0x44, 0x55, 0x66, board.register(Boards.FLAGS), 0x77 - 0x78 & 255, 0x23FE, 8, 0, 0};
        Check.due("enabled before", board.register(Boards.ENABLED), 1);
        Check.due("states", board.step(), 11);
        for (int r = 0; r < 12; r++) {
            Check.due("register " + r, board.register(r), want[r]);
        }
        stateIs("taken", board, MIDDLE + 1 + 11, 0, 0);
        Check.due("pushed: lower", board.memory(0x23FE), Boards.PLACE + 18);
        Check.due("pushed: upper", board.memory(0x23FF), 0);
    }

    private static void notTakenWhileDisabled() {
        InvaderBoard board = Boards.atState(MIDDLE, NOP, NOP);
        Check.due("no request taken", board.step(), 4);
        Check.due("PC", board.register(Boards.PC), Boards.PLACE + 1);
        board = Boards.atState(MIDDLE - 12, EI, NOP, DI, NOP, NOP);
        Boards.steps(board, 2);
        Check.due("no request before DI", board.state(Boards.REQUEST), 0);
        Boards.steps(board, 3);
        Check.due("DI stands between", board.register(Boards.PC), Boards.PLACE + 5);
        Check.due("it waits", board.state(Boards.REQUEST), 1);
    }

    /** The instruction in which the request comes is done to its end, the next one not begun. */
    private static void takenBetweenInstructions() {
        InvaderBoard board = Boards.atState(MIDDLE - 9, EI, NOP, INR_A, INR_A);
        Boards.steps(board, 3);
        Check.due("done", board.register(Boards.A), 1);
        Check.due("request", board.state(Boards.REQUEST), 1);
        Check.due("taken", board.step(), 11);
        Check.due("not begun", board.register(Boards.A), 1);
        Check.due("pushed", board.memory(0xFFFE), Boards.PLACE + 3);
        board = Boards.atState(MIDDLE - 9, EI, NOP, 0xC3, 0x67, 0x45);
        Boards.steps(board, 4);
        Check.due("pushed behind a jump", board.memory(0xFFFE) | board.memory(0xFFFF) << 8, 0x4567);
    }

    private static void takenOverTheStacksEnd() {
        InvaderBoard board = Boards.atState(MIDDLE, 0x31, 0x01, 0x00, EI, 0xC3, 0x67, 0x45);
        int first = board.memory(0);
        Boards.steps(board, 4);
        Check.due("SP", board.register(Boards.SP), 65535);
        Check.due("lower", board.memory(65535), 0x67);
        Check.due("the upper is lost", board.memory(0), first);
        Check.due("PC", board.register(Boards.PC), 8);
    }

    private static void notInsideItsHandler() {
        InvaderBoard board = Boards.atState(MIDDLE, EI, NOP, NOP);
        Boards.loadAt(board, 8, 0xC3, 0x08, 0x00);
        Boards.steps(board, 3);
        Check.due("disabled", board.register(Boards.ENABLED), 0);
        board.run(FRAME);
        Check.due("still in the handler", board.register(Boards.PC), 8);
        Check.due("SP", board.register(Boards.SP), 0xFFFE);
        Check.due("the next request waits", board.state(Boards.REQUEST) > 0 ? 1 : 0, 1);
    }

    private static void enabledBehindEveryCode() {
        for (int code = 0; code < 256; code++) {
            String name = "EI, " + Integer.toHexString(code);
            InvaderBoard board = Boards.with(EI, code, 0x20, 0x20);
            board.step();
            Check.due(name + ": behind EI", board.register(Boards.ENABLED), 0);
            board.step();
            Check.due(name, board.register(Boards.ENABLED), code == DI ? 0 : 1);
        }
    }

    private static void takenBehindTheNext() {
        InvaderBoard board = Boards.atState(MIDDLE, EI, INR_A, INR_A);
        Check.due("EI", board.step(), 4);
        Check.due("behind EI", board.register(Boards.ENABLED), 0);
        Check.due("the next", board.step(), 5);
        Check.due("behind the next", board.register(Boards.ENABLED), 1);
        Check.due("taken", board.step(), 11);
        Check.due("one was done", board.register(Boards.A), 1);
        Check.due("disabled", board.register(Boards.ENABLED), 0);
    }

    private static void disabledRightBehind() {
        InvaderBoard board = Boards.atState(MIDDLE, EI, DI, NOP, NOP, EI, NOP, NOP);
        Boards.steps(board, 2);
        Check.due("behind EI, DI", board.register(Boards.ENABLED), 0);
        Boards.steps(board, 2);
        Check.due("behind EI, DI, NOP, NOP", board.register(Boards.ENABLED), 0);
        Check.due("not taken", board.register(Boards.PC), Boards.PLACE + 4);
        Boards.steps(board, 2);
        Check.due("by another EI", board.register(Boards.ENABLED), 1);
        board.step();
        Check.due("taken then", board.register(Boards.PC), 8);
        board = Boards.stepped(3, EI, NOP, DI, NOP);
        Check.due("DI disables at once", board.register(Boards.ENABLED), 0);
    }

    private static void anotherEnabling() {
        InvaderBoard board = Boards.atState(MIDDLE, EI, EI, INR_A);
        Boards.loadAt(board, 8, NOP, NOP);
        board.step();
        Check.due("behind the first EI", board.register(Boards.ENABLED), 0);
        board.step();
        Check.due("behind the second EI", board.register(Boards.ENABLED), 1);
        Check.due("taken", board.step(), 11);
        Check.due("at 8", board.register(Boards.PC), 8);
        Boards.steps(board, 2);
        Check.due("the second EI has no effect left", board.register(Boards.ENABLED), 0);
    }

    private static void manyEnablings() {
        InvaderBoard board = Boards.with(EI, EI, EI, DI, NOP, EI, EI, DI, EI, DI, NOP);
        int[] want = {0, 1, 1, 0, 0, 0, 1, 0, 0, 0, 0};
        for (int i = 0; i < want.length; i++) {
            board.step();
            Check.due("behind instruction " + i, board.register(Boards.ENABLED), want[i]);
        }
    }

    private static void enabledAlready() {
        InvaderBoard board = Boards.with(EI, NOP, EI, NOP, NOP);
        int[] want = {0, 1, 1, 1, 1};
        for (int i = 0; i < want.length; i++) {
            board.step();
            Check.due("behind instruction " + i, board.register(Boards.ENABLED), want[i]);
        }
    }

    /** A request that comes in an EI that found them enabled is taken at once, and the EI has no effect left. */
    private static void enabledAlreadyAndTaken() {
        InvaderBoard board = Boards.atState(MIDDLE - 12, EI, NOP, EI, NOP, NOP);
        Boards.loadAt(board, 8, NOP, NOP);
        Boards.steps(board, 3);
        Check.due("request", board.state(Boards.REQUEST), 1);
        Check.due("enabled", board.register(Boards.ENABLED), 1);
        Check.due("taken", board.step(), 11);
        for (int i = 0; i < 3; i++) {
            Check.due("disabled in the handler", board.register(Boards.ENABLED), 0);
            board.step();
        }
    }

    private static void waitsStateByState() {
        InvaderBoard board = Boards.with(EI, HLT, INR_A);
        board.step();
        Check.due("HLT", board.step(), 7);
        for (int i = 1; i <= 20; i++) {
            Check.due("one state", board.step(), 1);
            stateIs("wait " + i, board, 11 + i, 0, 0);
            Check.due("PC", board.register(Boards.PC), 2);
            Check.due("halted", board.register(Boards.HALTED), 1);
        }
        Check.due("nothing done", board.register(Boards.A), 0);
    }

    private static void wakesForBothRequests() {
        InvaderBoard board = Boards.with(EI, HLT, INR_A, EI, HLT, INR_A, NOP);
        Boards.loadAt(board, 8, 0xC9);
        Boards.loadAt(board, 16, 0xC9);
        Boards.steps(board, 2);
        board.run(MIDDLE - 11 - 1);
        Check.due("one state before", board.step(), 1);
        stateIs("the middle", board, MIDDLE, 0, 1);
        Check.due("still halted", board.register(Boards.HALTED), 1);
        Check.due("taken", board.step(), 11);
        Check.due("no longer halted", board.register(Boards.HALTED), 0);
        Check.due("the address behind HLT", board.memory(0xFFFE), 2);
        Boards.steps(board, 2);
        Check.due("goes on", board.register(Boards.A), 1);
        Boards.steps(board, 2);
        Check.due("halted again", board.register(Boards.HALTED), 1);
        board.run(FRAME - board.state(Boards.STATES));
        stateIs("the end", board, 0, 1, 2);
        Check.due("taken at the end", board.step(), 11);
        Check.due("at 16", board.register(Boards.PC), 16);
        Boards.steps(board, 2);
        Check.due("goes on again", board.register(Boards.A), 2);
    }

    private static void requestDuringTheHalt() {
        InvaderBoard board = Boards.atState(MIDDLE - 4 - 7, EI, HLT);
        Boards.steps(board, 2);
        stateIs("HLT ends at the middle", board, MIDDLE, 0, 1);
        Check.due("halted", board.register(Boards.HALTED), 1);
        Check.due("taken without a wait", board.step(), 11);
        Check.due("no longer halted", board.register(Boards.HALTED), 0);
    }

    private static void requestThatWaitedBefore() {
        InvaderBoard board = Boards.atState(MIDDLE, EI, HLT, INR_A);
        board.step();
        Check.due("HLT is the next instruction", board.step(), 7);
        Check.due("halted", board.register(Boards.HALTED), 1);
        Check.due("enabled", board.register(Boards.ENABLED), 1);
        Check.due("taken without a wait", board.step(), 11);
        Check.due("the address behind HLT", board.memory(0xFFFE), Boards.PLACE + 2);
    }

    private static void runsOverAWait() {
        InvaderBoard board = Boards.with(EI, HLT, INR_A, 0x76);
        Boards.loadAt(board, 8, 0xC9);
        Check.due("wait, request, RET and INR", board.run(MIDDLE + 11 + 10 + 1), MIDDLE + 11 + 10 + 5);
        Check.due("A", board.register(Boards.A), 1);
        board = Boards.with(EI, HLT, INR_A, 0x76);
        Check.due("up to the request", board.run(MIDDLE), MIDDLE);
        Check.due("not yet taken", board.state(Boards.REQUEST), 1);
        Check.due("one state more", board.run(1), 11);
    }

    private static void waitsForEver() {
        InvaderBoard board = Boards.with(HLT, INR_A);
        board.step();
        int frames = 15;
        Boards.pass(board, frames * FRAME - 7);
        stateIs("15 frames", board, 0, frames, 2);
        Check.due("halted", board.register(Boards.HALTED), 1);
        Check.due("PC", board.register(Boards.PC), 1);
        Check.due("one state", board.step(), 1);
        Check.due("a run", board.run(FRAME - 2), FRAME - 2);
        stateIs("nearly 16 frames", board, FRAME - 1, frames, 1);
        Check.due("still halted", board.register(Boards.HALTED), 1);
    }
}
