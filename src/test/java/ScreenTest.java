/** Promise 10, dot; promise 11, lit. */
public final class ScreenTest {
    private static final int MOST = Integer.MAX_VALUE;
    private static final int LEAST = Integer.MIN_VALUE;

    public static void main(String[] args) {
        Check.of(Sentence.SIZE_OF_THE_SCREEN);
        corners();
        allBytesAreDots();
        workRamIsNoDot();
        Check.of(Sentence.PLACE_OF_A_DOT);
        everyDot();
        everyBitOfAByte();
        Check.of(Sentence.DOT);
        dotIsZeroOrOne();
        Check.of(Sentence.DOT_REFUSED);
        dotWrong();
        Check.of(Sentence.LIT);
        rectangles();
        emptyRectangles();
        rectanglesOverTheEdges();
        rectanglesBesideTheScreen();
        rectanglesOfAnySize();
        Check.finish();
    }

    private static void everyDot() {
        for (int x = 0; x < 224; x++) {
            for (int y = 0; y < 256; y += 1 + (x + y) % 7) {
                InvaderBoard board = new InvaderBoard();
                board.poke(9216 + 32 * x + (255 - y) / 8, 1 << (255 - y) % 8);
                Check.due("dot " + x + ", " + y, board.dot(x, y), 1);
                Check.due("lit of the dot", board.lit(x, y, 1, 1), 1);
                Check.due("lit of all", board.lit(0, 0, 224, 256), 1);
                Check.due("lit above", board.lit(x, 0, 1, y), 0);
                Check.due("lit below", board.lit(x, y + 1, 1, 256), 0);
            }
        }
    }

    /** Bytes of the first and the last column: the lowest bit is the lowest dot of eight. */
    private static void everyBitOfAByte() {
        int[][] places = {{9216, 0, 255}, {9216 + 31, 0, 7}, {16383 - 31, 223, 255}, {16383, 223, 7}, {9216 + 32, 1, 255}};
        for (int[] place : places) {
            for (int bit = 0; bit < 8; bit++) {
                InvaderBoard board = new InvaderBoard();
                board.poke(place[0], 1 << bit);
                for (int i = 0; i < 8; i++) {
                    Check.due("dot of bit " + bit, board.dot(place[1], place[2] - i), i == bit ? 1 : 0);
                }
            }
        }
    }

    private static void corners() {
        InvaderBoard board = new InvaderBoard();
        board.poke(9216 + 31, 0x80);
        board.poke(9216, 0x01);
        board.poke(16383, 0x80);
        board.poke(16383 - 31, 0x01);
        int[][] dots = {{0, 0}, {0, 255}, {223, 0}, {223, 255}};
        for (int[] dot : dots) {
            Check.due("corner " + dot[0] + ", " + dot[1], board.dot(dot[0], dot[1]), 1);
        }
        Check.due("no others", board.lit(0, 0, 224, 256), 4);
        Check.due("beside them", board.dot(1, 0) + board.dot(0, 1) + board.dot(222, 255) + board.dot(223, 254), 0);
    }

    /** All 7168 bytes of the screen's RAM are on the screen, filled by a program. */
    private static void allBytesAreDots() {
        InvaderBoard board = Boards.with(0x31, 0x00, 0x40, 0x11, 0xFF, 0xFF, 0xD5, 0xC3, 0x06, 0x00);
        board.run(20);
        for (int i = 1; i <= 3584; i += 512) {
            for (int j = 0; j < 512; j += 256) {
                board.run(256 * 21);
            }
            Check.due("lit behind " + (i + 511) + " words", board.lit(0, 0, 224, 256), 16 * (i + 511));
        }
        Check.due("all of the screen", board.lit(0, 0, 224, 256), 224 * 256);
        board.run(21);
        Check.due("and not more", board.lit(-300, -300, 1000, 1000), 224 * 256);
        Check.due("that was in work RAM", board.memory(9215), 255);
    }

    private static void dotIsZeroOrOne() {
        InvaderBoard board = new InvaderBoard();
        for (int value : new int[] {0, 255, 0x55}) {
            board.poke(12000, value);
            int x = (12000 - 9216) / 32;
            int y = 255 - (12000 - 9216) % 32 * 8;
            for (int bit = 0; bit < 8; bit++) {
                Check.due("dot", board.dot(x, y - bit), value >> bit & 1);
            }
        }
    }

    private static void dotWrong() {
        InvaderBoard board = new InvaderBoard();
        for (int i = 0; i < 32; i++) {
            board.poke(9216 + i, 255);
            board.poke(16383 - i, 255);
        }
        int[][] places = {{-1, 0}, {0, -1}, {224, 0}, {0, 256}, {223, 256}, {224, 255}, {255, 0}, {-1, -1},
            {LEAST, 0}, {0, LEAST}, {MOST, 0}, {0, MOST}, {MOST, MOST}, {LEAST, LEAST}};
        for (int[] place : places) {
            Check.refused("dot " + place[0] + ", " + place[1], IndexOutOfBoundsException.class,
                () -> board.dot(place[0], place[1]));
        }
        Check.due("upper left", board.dot(0, 0), 1);
        Check.due("lower right", board.dot(223, 255), 1);
    }

    /** Columns 0 and 223 are all 1. */
    private static InvaderBoard framed() {
        InvaderBoard board = new InvaderBoard();
        for (int i = 0; i < 32; i++) {
            board.poke(9216 + i, 255);
            board.poke(16383 - i, 255);
        }
        return board;
    }

    private static void rectangles() {
        InvaderBoard board = framed();
        Check.due("all", board.lit(0, 0, 224, 256), 512);
        Check.due("left half", board.lit(0, 0, 112, 256), 256);
        Check.due("between", board.lit(1, 0, 222, 256), 0);
        for (int from = 0; from < 20; from++) {
            for (int h = 0; h < 20; h++) {
                Check.due("rows", board.lit(0, 118 + from, 1, h), h);
            }
        }
        board = framed();
        for (int y = 0; y < 256; y += 5) {
            Check.due("one dot", board.lit(0, y, 1, 1), 1);
            Check.due("from " + y + " on", board.lit(0, y, 1, 256), 256 - y);
            Check.due("up to " + y, board.lit(0, 0, 1, y), y);
            Check.due("both columns", board.lit(0, y, 224, 1), 2);
        }
    }

    private static void emptyRectangles() {
        InvaderBoard board = framed();
        Check.due("no width", board.lit(0, 0, 0, 256), 0);
        Check.due("no height", board.lit(0, 0, 224, 0), 0);
        Check.due("neither", board.lit(0, 0, 0, 0), 0);
        Check.due("negative width", board.lit(5, 0, -5, 256), 0);
        Check.due("negative height", board.lit(0, 5, 224, -5), 0);
        Check.due("both negative", board.lit(224, 256, -224, -256), 0);
        Check.due("width -1", board.lit(0, 0, -1, 256), 0);
        Check.due("height -1", board.lit(0, 0, 224, -1), 0);
    }

    private static void rectanglesOverTheEdges() {
        InvaderBoard board = framed();
        Check.due("over all edges", board.lit(-5, -5, 300, 1000), 512);
        Check.due("over the upper left", board.lit(-3, -3, 4, 4), 1);
        Check.due("over the lower right", board.lit(223, 255, 50, 50), 1);
        Check.due("over the lower left", board.lit(-3, 253, 4, 50), 3);
        Check.due("over the upper right", board.lit(222, -7, 20, 9), 2);
        Check.due("one column inside from the left", board.lit(-10, 0, 11, 256), 256);
        Check.due("one row inside from above", board.lit(0, -10, 224, 11), 2);
    }

    private static void rectanglesBesideTheScreen() {
        InvaderBoard board = framed();
        Check.due("left of the screen", board.lit(-10, 0, 10, 256), 0);
        Check.due("right of the screen", board.lit(224, 0, 10, 256), 0);
        Check.due("above", board.lit(0, -10, 224, 10), 0);
        Check.due("below", board.lit(0, 256, 224, 10), 0);
        Check.due("one column left of it", board.lit(-1, 0, 1, 256), 0);
    }

    private static void rectanglesOfAnySize() {
        InvaderBoard board = framed();
        Check.due("most", board.lit(0, 0, MOST, MOST), 512);
        Check.due("most from the lower right", board.lit(223, 255, MOST, MOST), 1);
        Check.due("from least on", board.lit(LEAST, LEAST, MOST, MOST), 0);
        Check.due("from just enough on", board.lit(-MOST + 1, -MOST + 1, MOST, MOST), 1);
        Check.due("at most", board.lit(MOST, MOST, MOST, MOST), 0);
        Check.due("least sizes", board.lit(0, 0, LEAST, LEAST), 0);
        Check.due("least all over", board.lit(LEAST, LEAST, LEAST, LEAST), 0);
        Check.due("most, with a least size", board.lit(MOST, MOST, LEAST, LEAST), 0);
        Check.due("a corner, with a least size", board.lit(223, 255, LEAST, LEAST), 0);
        Check.due("a width that would wrap around", board.lit(1, 0, MOST, 256), 256);
        Check.due("a height that would wrap around", board.lit(0, 1, 224, MOST), 510);
    }

    private static void workRamIsNoDot() {
        InvaderBoard board = new InvaderBoard();
        board.poke(9215, 255);
        board.poke(8192, 255);
        Check.due("work RAM", board.lit(0, 0, 224, 256), 0);
        board.poke(9216 + 0xC000, 255);
        Check.due("a mirror of the screen", board.lit(0, 0, 224, 256), 8);
    }
}
