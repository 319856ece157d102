/** An object answers 512 calls, the dearest ones too. */
public final class ManyCallsTest {
    public static void main(String[] args) {
        Check.of(Sentence.USED_FOR_512_CALLS);
        waits();
        sounds();
        Check.finish();
    }

    /** 511 runs over waits and resets of the watchdog, then one call more. */
    private static void waits() {
        InvaderBoard board = new InvaderBoard();
        board.load(0, 0x76, 1);
        long gone = 0;
        for (int call = 2; call < 512; call++) {
            gone += board.run(40000);
        }
        Check.due("call 512", board.state(Boards.FRAMES), gone / Boards.FRAME);
    }

    /** CMA, OUT 3, OUT 6, JMP 0: 34 states, and the latch rises at every other turn. */
    private static void sounds() {
        InvaderBoard board = new InvaderBoard();
        board.load(0, 0x2FD303D3, 4);
        board.load(4, 0x06C30000, 4);
        long gone = 0;
        for (int call = 3; call < 512; call++) {
            gone += board.run(40000);
        }
        long outs = gone / 34 + (gone % 34 >= 14 ? 1 : 0);
        Check.due("call 512", board.sounds(7), (outs + 1) / 2);
    }
}
