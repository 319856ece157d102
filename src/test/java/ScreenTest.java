/** Promise 10, dot; promise 11, lit. */
public final class ScreenTest {
    private static final int MOST = Integer.MAX_VALUE;
    private static final int LEAST = Integer.MIN_VALUE;

    public static void main(String[] args) {
        everyDot();
        dotWrong();
        rectangles();
        rectanglesOverTheEdges();
        workRamIsNoDot();
        Check.finish();
    }

    private static void everyDot() {
        for (int x = 0; x < 224; x++) {
            for (int y = 0; y < 256; y += 1 + (x + y) % 7) {
                InvaderBoard board = new InvaderBoard();
                board.poke(9216 + 32 * x + (255 - y) / 8, 1 << (255 - y) % 8);
                Check.due("dot " + x + ", " + y, board.dot(x, y), 1);
                Check.due("lit of the dot", board.lit(x, y, 1, 1), 1);
                Check.due("lit of all", board.lit(0, 0, 224, 256), 1);
                Check.due("lit above", board.lit(x, 0, 1, y), 0);
                Check.due("lit below", board.lit(x, y + 1, 1, 256), 0);
            }
        }
        InvaderBoard board = new InvaderBoard();
        board.poke(9216, 0x81);
        int[] want = {1, 0, 0, 0, 0, 0, 0, 1};
        for (int i = 0; i < 8; i++) {
            Check.due("dot above the lower left", board.dot(0, 255 - i), want[i]);
        }
        Check.due("its neighbour", board.dot(1, 255), 0);
    }

    private static void dotWrong() {
        InvaderBoard board = new InvaderBoard();
        for (int i = 0; i < 32; i++) {
            board.poke(9216 + i, 255);
            board.poke(16383 - i, 255);
        }
        int[][] places = {{-1, 0}, {0, -1}, {224, 0}, {0, 256}, {223, 256}, {224, 255}, {255, 0}, {-1, -1},
            {LEAST, 0}, {0, LEAST}, {MOST, 0}, {0, MOST}, {MOST, MOST}, {LEAST, LEAST}};
        for (int[] place : places) {
            Check.refused("dot " + place[0] + ", " + place[1], IndexOutOfBoundsException.class,
                () -> board.dot(place[0], place[1]));
        }
        Check.due("upper left", board.dot(0, 0), 1);
        Check.due("lower right", board.dot(223, 255), 1);
    }

    /** Columns 0 and 223 are all 1. */
    private static InvaderBoard framed() {
        InvaderBoard board = new InvaderBoard();
        for (int i = 0; i < 32; i++) {
            board.poke(9216 + i, 255);
            board.poke(16383 - i, 255);
        }
        return board;
    }

    private static void rectangles() {
        InvaderBoard board = framed();
        Check.due("all", board.lit(0, 0, 224, 256), 512);
        Check.due("left half", board.lit(0, 0, 112, 256), 256);
        Check.due("between", board.lit(1, 0, 222, 256), 0);
        for (int from = 0; from < 20; from++) {
            for (int h = 0; h < 20; h++) {
                Check.due("rows", board.lit(0, 118 + from, 1, h), h);
            }
        }
        Check.due("no width", board.lit(0, 0, 0, 256), 0);
        Check.due("no height", board.lit(0, 0, 224, 0), 0);
        Check.due("negative width", board.lit(5, 0, -5, 256), 0);
        Check.due("negative height", board.lit(0, 5, 224, -5), 0);
    }

    private static void rectanglesOverTheEdges() {
        InvaderBoard board = framed();
        Check.due("over all edges", board.lit(-5, -5, 300, 1000), 512);
        Check.due("over the upper left", board.lit(-3, -3, 4, 4), 1);
        Check.due("over the lower right", board.lit(223, 255, 50, 50), 1);
        Check.due("left of the screen", board.lit(-10, 0, 10, 256), 0);
        Check.due("right of the screen", board.lit(224, 0, 10, 256), 0);
        Check.due("above", board.lit(0, -10, 224, 10), 0);
        Check.due("below", board.lit(0, 256, 224, 10), 0);
        Check.due("most", board.lit(0, 0, MOST, MOST), 512);
        Check.due("most from the lower right", board.lit(223, 255, MOST, MOST), 1);
        Check.due("from least on", board.lit(LEAST, LEAST, MOST, MOST), 0);
        Check.due("from just enough on", board.lit(-MOST + 1, -MOST + 1, MOST, MOST), 1);
        Check.due("at most", board.lit(MOST, MOST, MOST, MOST), 0);
        Check.due("least sizes", board.lit(0, 0, LEAST, LEAST), 0);
        Check.due("least all over", board.lit(LEAST, LEAST, LEAST, LEAST), 0);
    }

    private static void workRamIsNoDot() {
        InvaderBoard board = new InvaderBoard();
        board.poke(9215, 255);
        board.poke(8192, 255);
        Check.due("work RAM", board.lit(0, 0, 224, 256), 0);
        board.poke(9216 + 0xC000, 255);
        Check.due("a mirror of the screen", board.lit(0, 0, 224, 256), 8);
    }
}
