/** Memory's parts and mirrors; promise 8, memory; promise 9, poke. */
public final class MemoryTest {
    private static final int BOARD_CALLS = 120;
    private static final int[] EDGES = {0, 1, 2047, 2048, 8191, 8192, 9215, 9216, 16382, 16383};

    public static void main(String[] args) {
        Check.of(Sentence.UPPER_BITS_OF_AN_ADDRESS);
        everyAddress();
        mirrorsRun();
        Check.of(Sentence.PARTS_OF_MEMORY);
        writesToRomAreLost();
        nothingBetweenRomAndRam();
        edgesOfRam();
        everyInstructionThatWrites();
        Check.of(Sentence.NO_MIRROR_BELOW_RAM);
        romHasNoMirror();
        noMirrorByInstructions();
        noMirrorRuns();
        Check.of(Sentence.MEMORY);
        lowestBitsOfAnAddress();
        asInstructionsRead();
        Check.of(Sentence.POKE);
        pokeAnswers();
        lowestBitsOfAByte();
        pokedAddressesWrap();
        asInstructionsWrite();
        Check.finish();
    }

    /** What is poked is seen in all mirrors of RAM, and nowhere below. */
    private static void everyAddress() {
        InvaderBoard board = null;
        for (int address = 0; address < 65536; address++) {
            if (address % (BOARD_CALLS / 2) == 0) {
                board = new InvaderBoard();
            }
            int place = address & 16383;
            int want = place >= 8192 ? 1 + address % 255 : 0;
            Check.due("poke " + address, board.poke(address, 1 + address % 255), want);
            for (int mirror = 0; mirror < 65536; mirror += 16384) {
                Check.due("mirror " + mirror + " of " + place, board.memory(mirror + place), want);
            }
        }
    }

    /** A program in RAM runs in each of its mirrors, with PC as it was told. */
    private static void mirrorsRun() {
        for (int mirror = 0; mirror < 65536; mirror += 16384) {
            InvaderBoard board = Boards.with(0xC3, 0x00, 0x20 + mirror / 256);
            board.poke(0x2000, 0x3E);
            board.poke(0x2001, 0x77);
            Boards.steps(board, 2);
            Check.due("A by " + mirror, board.register(Boards.A), 0x77);
            Check.due("PC by " + mirror, board.register(Boards.PC), 0x2002 + mirror);
        }
    }

    private static void writesToRomAreLost() {
        for (int address : new int[] {0, 1, 1000, 2046, 2047}) {
            InvaderBoard board = new InvaderBoard();
            Check.due("0 at " + address, board.poke(address, 0xFF), 0);
            board.load(address, 0x99, 1);
            Check.due("poke at " + address, board.poke(address, 0xFF), 0x99);
            Check.due("memory at " + address, board.memory(address), 0x99);
        }
    }

    private static void nothingBetweenRomAndRam() {
        InvaderBoard board = new InvaderBoard();
        board.load(2044, -1, 4);
        for (int address : new int[] {2048, 2049, 4095, 4096, 6144, 8190, 8191}) {
            Check.due("poke at " + address, board.poke(address, 0xFF), 0);
            Check.due("memory at " + address, board.memory(address), 0);
        }
        Check.due("ROM's last", board.memory(2047), 255);
        Check.due("RAM's first", board.memory(8192), 0);
    }

    private static void edgesOfRam() {
        InvaderBoard board = new InvaderBoard();
        Check.due("below RAM", board.poke(8191, 9), 0);
        Check.due("first of RAM", board.poke(8192, 9), 9);
        Check.due("last of work RAM", board.poke(9215, 10), 10);
        Check.due("no dot", board.lit(0, 0, 224, 256), 0);
        Check.due("first of the screen", board.poke(9216, 11), 11);
        Check.due("three dots", board.lit(0, 0, 224, 256), 3);
        Check.due("last of the screen", board.poke(16383, 12), 12);
        Check.due("five dots", board.lit(0, 0, 224, 256), 5);
        Check.due("behind it", board.poke(16384, 13), 0);
        int[] want = {0, 9, 10, 11, 12, 0};
        int[] places = {8191, 8192, 9215, 9216, 16383, 16384};
        for (int i = 0; i < places.length; i++) {
            Check.due("memory at " + places[i], board.memory(places[i]), want[i]);
        }
    }

    /** A board with HL and SP, BC, DE at or right above an address, A and so on 0xEE, one instruction done. */
    private static InvaderBoard written(int address, int... code) {
        int sp = code[0] == 0xE3 ? address : address + 2 & 65535;
        InvaderBoard board = Boards.poised(0xEE02, address, address, address, sp, code);
        board.step();
        return board;
    }

    private static void everyInstructionThatWrites() {
        for (int address : new int[] {0, 100, 2046, 2047, 2048, 8191, 0x4000, 0x8800, 0xC000}) {
            int low = address & 255;
            int high = address >> 8;
            int[][] codes = {{0x77}, {0x36, 0xEE}, {0x34}, {0x35}, {0x02}, {0x12}, {0x32, low, high}, {0x22, low, high},
                {0xC5}, {0xE5}, {0xF5}, {0xE3}, {0xCD, 0x50, 0x00}, {0xFF}};
            for (int[] code : codes) {
                InvaderBoard board = written(address, code);
                int want = address == 0 ? 0x31 : 0;
                String name = "behind " + Integer.toHexString(code[0]) + " at " + address;
                Check.due(name, board.memory(address), want);
            }
        }
    }

    private static void romHasNoMirror() {
        InvaderBoard board = new InvaderBoard();
        board.load(0, 0x01020304, 4);
        board.load(2044, 0x05060708, 4);
        for (int mirror = 16384; mirror < 65536; mirror += 16384) {
            for (int place : EDGES) {
                if (place < 8192) {
                    Check.due("memory at " + (mirror + place), board.memory(mirror + place), 0);
                    Check.due("poke at " + (mirror + place), board.poke(mirror + place, 0xFF), 0);
                    Check.due("and then", board.memory(mirror + place), 0);
                }
            }
        }
        Check.due("the ROM's first", board.memory(0), 1);
        Check.due("the ROM's last", board.memory(2047), 8);
    }

    private static void noMirrorByInstructions() {
        for (int mirror = 16384; mirror < 65536; mirror += 16384) {
            InvaderBoard board = Boards.poised(0xEE02, 0, 0, mirror, 0, 0x7E, 0x36, 0x55, 0x46);
            board.step();
            Check.due("MOV A,M at " + mirror, board.register(Boards.A), 0);
            Boards.steps(board, 2);
            Check.due("MOV B,M behind MVI M", board.register(Boards.B), 0);
            Check.due("the ROM", board.memory(0), 0x31);
        }
    }

    /** At the ROM's would-be mirrors there is nothing but NOPs. */
    private static void noMirrorRuns() {
        for (int mirror = 64; mirror < 256; mirror += 64) {
            InvaderBoard board = Boards.with(0xC3, 0x00, mirror);
            board.step();
            Check.due("NOP", board.step(), 4);
            Check.due("PC", board.register(Boards.PC), 256 * mirror + 1);
        }
    }

    private static void lowestBitsOfAnAddress() {
        InvaderBoard board = Boards.with(0x5A);
        board.poke(8192, 44);
        board.poke(16383, 77);
        Check.due("65536", board.memory(65536), 0x5A);
        Check.due("-65536", board.memory(-65536), 0x5A);
        Check.due("65536 + 16384", board.memory(65536 + 16384), 0);
        Check.due("-1", board.memory(-1), 77);
        Check.due("Integer.MAX_VALUE", board.memory(Integer.MAX_VALUE), 77);
        Check.due("Integer.MIN_VALUE", board.memory(Integer.MIN_VALUE), 0x5A);
        Check.due("0x12000", board.memory(0x12000), 44);
        Check.due("-57344", board.memory(-57344), 44);
        Check.due("no states", board.state(Boards.STATES), 0);
    }

    /** LDA and STA meet what memory and poke tell. */
    private static void asInstructionsRead() {
        for (int mirror = 0; mirror < 65536; mirror += 16384) {
            for (int place : EDGES) {
                int address = mirror + place;
                InvaderBoard board = Boards.poised(2, 0, 0, address, 0, 0x3A, address & 255, address >> 8, 0x46);
                board.load(2047, 0x66, 1);
                board.poke(address, 0x3C);
                int told = board.memory(address);
                Boards.steps(board, 2);
                Check.due("LDA " + address, board.register(Boards.A), told);
                Check.due("MOV B,M at " + address, board.register(Boards.B), told);
                Check.due("memory again", board.memory(address), told);
            }
        }
    }

    private static void pokeAnswers() {
        InvaderBoard board = Boards.with(0x12, 0x34);
        Check.due("ROM", board.poke(1, 0xFF), 0x34);
        Check.due("ROM stays", board.memory(1), 0x34);
        Check.due("no mirror of the ROM", board.memory(16385), 0);
        Check.due("none there by poke", board.poke(16385, 0xFF), 0);
        Check.due("nor at 32769", board.poke(32769, 0xFF), 0);
        Check.due("nor at 49153", board.memory(49153), 0);
        Check.due("RAM", board.poke(8192, 5), 5);
        Check.due("RAM again", board.poke(8192, 0), 0);
        Check.due("RAM by a mirror", board.poke(24576, 6), 6);
        Check.due("RAM itself", board.memory(8192), 6);
        Check.due("no states", board.state(Boards.STATES), 0);
    }

    private static void lowestBitsOfAByte() {
        InvaderBoard board = new InvaderBoard();
        int[] values = {0, 1, 127, 128, 255, 256, 257, 300, -1, -128, -129, -256, Integer.MIN_VALUE, Integer.MAX_VALUE};
        for (int value : values) {
            Check.due("poke of " + value, board.poke(8193, value), value & 255);
            Check.due("memory of " + value, board.memory(8193), value & 255);
        }
    }

    private static void pokedAddressesWrap() {
        InvaderBoard board = Boards.with(0x5A);
        Check.due("-1", board.poke(-1, 77), 77);
        Check.due("is 16383", board.memory(16383), 77);
        Check.due("65536", board.poke(65536, 1), 0x5A);
        Check.due("65536 + 8192", board.poke(65536 + 8192, 3), 3);
        Check.due("is 8192", board.memory(8192), 3);
        Check.due("Integer.MAX_VALUE", board.poke(Integer.MAX_VALUE, 4), 4);
        Check.due("is 16383 too", board.memory(16383), 4);
        Check.due("Integer.MIN_VALUE", board.poke(Integer.MIN_VALUE, 4), 0x5A);
    }

    private static void asInstructionsWrite() {
        for (int mirror = 0; mirror < 65536; mirror += 16384) {
            for (int place : EDGES) {
                int address = mirror + place;
                InvaderBoard one = Boards.poised(0x6F02, 0, 0, 0, 0, 0x32, address & 255, address >> 8);
                InvaderBoard other = Boards.poised(0x6F02, 0, 0, 0, 0, 0x32, address & 255, address >> 8);
                one.step();
                Check.due("poke and STA at " + address, other.poke(address, 0x6F), one.memory(address));
                Check.due("at its place", other.memory(place), one.memory(place));
            }
        }
    }
}
