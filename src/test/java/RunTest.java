/** Promise 6, run. */
public final class RunTest {
    private static final int FRAME = Boards.FRAME;

    public static void main(String[] args) {
        Check.of(Sentence.RUN);
        atLeastSoMany();
        endsWhereTheyHaveGoneBy();
        fewest();
        most();
        waits();
        takesRequests();
        asSteps();
        Check.of(Sentence.RUN_REFUSED);
        refused();
        Check.finish();
    }

    private static void atLeastSoMany() {
        InvaderBoard board = new InvaderBoard();
        Check.due("four states", board.run(4), 4);
        Check.due("five states", board.run(5), 8);
        Check.due("states", board.state(Boards.STATES), 12);
        Check.due("PC", board.register(Boards.PC), 3);
        board = Boards.with(0xE3, 0xC3, 0x00, 0x00);
        Check.due("18 + 10 + 18", board.run(29), 46);
    }

    /** XTHL and JMP in turn: 18 and 28 states are ends. */
    private static void endsWhereTheyHaveGoneBy() {
        for (int states = 1; states <= 46; states++) {
            InvaderBoard board = Boards.with(0xE3, 0xC3, 0x00, 0x00);
            int want = states <= 18 ? 18 : states <= 28 ? 28 : 46;
            Check.due("run " + states, board.run(states), want);
            Check.due("states of run " + states, board.state(Boards.STATES), want);
            Check.due("PC of run " + states, board.register(Boards.PC), want == 28 ? 0 : 1);
        }
    }

    private static void fewest() {
        InvaderBoard board = Boards.with(0x00, 0x76);
        Check.due("one state of NOP", board.run(1), 4);
        Check.due("one state of HLT", board.run(1), 7);
        Check.due("one state of a wait", board.run(1), 1);
        Check.due("states", board.state(Boards.STATES), 12);
    }

    private static void most() {
        InvaderBoard board = new InvaderBoard();
        Check.due("40000", board.run(40000), 40000);
        Check.due("frames", board.state(Boards.FRAMES), 1);
        Check.due("states", board.state(Boards.STATES), 40000 - FRAME);
        Check.due("PC", board.register(Boards.PC), 10000);
        board = Boards.with(0x7F, 0xE3, 0xC3, 0x01, 0x00);
        Check.due("40000 and beyond", board.run(40000), 5 + 1428 * 28 + 18);
        board = Boards.stepped(1, 0x76);
        Check.due("40000 of a wait", board.run(40000), 40000);
        Check.due("39999 of a wait", board.run(39999), 39999);
    }

    private static void waits() {
        InvaderBoard board = Boards.with(0x76);
        Check.due("HLT", board.run(3), 7);
        Check.due("wait", board.run(12345), 12345);
        Check.due("states", board.state(Boards.STATES), 12352);
    }

    /** EI, then a loop of 14 states; handlers that count and return with an EI. */
    private static void takesRequests() {
        InvaderBoard board = Boards.with(0xFB, 0x00, 0xC3, 0x01, 0x00);
        Boards.loadAt(board, 8, 0x04, 0xFB, 0xC9);
        Boards.loadAt(board, 16, 0x0C, 0xFB, 0xC9);
        int gone = 0;
        while (gone < 5 * FRAME + 100) {
            gone += board.run(Math.min(40000, 5 * FRAME + 100 - gone));
        }
        Check.due("frames", board.state(Boards.FRAMES), 5);
        Check.due("states", board.state(Boards.STATES), gone - 5 * FRAME);
        Check.due("handlers of the middle", board.register(Boards.B), 5);
        Check.due("handlers of the end", board.register(Boards.C), 5);
        board = Boards.atState(Boards.MIDDLE, 0xFB, 0x00, 0x00);
        Check.due("EI, NOP, a request", board.run(9), 19);
        Check.due("PC", board.register(Boards.PC), 8);
    }

    /** A run answers as the steps that it is made of. */
    private static void asSteps() {
        int[] program = {0xFB, 0x3C, 0x76, 0xD3, 0x03, 0xC3, 0x00, 0x00, 0xC9, 0, 0, 0, 0, 0, 0, 0, 0xC9};
        InvaderBoard one = Boards.with(program);
        InvaderBoard other = Boards.with(program);
        one.run(16600);
        other.run(16600);
        for (int i = 0; i < 10; i++) {
            int gone = 0;
            while (gone < 13) {
                gone += other.step();
            }
            Check.due("run " + i, one.run(13), gone);
            for (int what = 0; what < 7; what++) {
                Check.due("state " + what, one.state(what), other.state(what));
            }
            Check.due("PC", one.register(Boards.PC), other.register(Boards.PC));
        }
    }

    private static void refused() {
        InvaderBoard board = new InvaderBoard();
        int[] numbers = {0, -1, 40001, 65536 + 1, Integer.MIN_VALUE, Integer.MAX_VALUE};
        for (int n : numbers) {
            Check.illegal("run " + n, () -> board.run(n));
        }
        Check.due("nothing ran", board.state(Boards.STATES), 0);
        Check.due("PC", board.register(Boards.PC), 0);
    }
}
