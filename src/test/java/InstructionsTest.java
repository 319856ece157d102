import java.util.Random;

/** Promise 5, the processor: every code on many contents, compared with the plain board. */
public final class InstructionsTest {
    private static final int CODE_AT = 24;
    private static final int SETUP_STEPS = 7;

    public static void main(String[] args) {
        Random random = new Random(8080);
        Check.of(Sentence.PROCESSOR);
        for (int code = 0; code < 256; code++) {
            for (int turn = 0; turn < 400; turn++) {
                compare(code, random);
            }
        }
        Check.of(Sentence.AUXILIARY);
        compareAllSums();
        Check.of(Sentence.DAA);
        compareAllDecimals();
        Check.finish();
    }

    /** Sets all registers, among them A and the flags from the stack, then does one instruction. */
    private static int[] program(int code, Random random) {
        int hl = random.nextBoolean() ? 0x2000 + random.nextInt(0x2000) : random.nextInt(65536);
        int sp = random.nextInt(8) == 0 ? random.nextInt(65536) : 0x2000 + random.nextInt(0x2000);
        int[] bytes = new int[CODE_AT + 3];
        int at = 0;
        at = put(bytes, at, 0x31, 0x00, 0x20);
        at = put(bytes, at, 0xF1);
        at = put(bytes, at, 0x01, random.nextInt(256), random.nextInt(256));
        at = put(bytes, at, 0x11, random.nextInt(256), random.nextInt(256));
        at = put(bytes, at, 0x21, hl & 255, hl >> 8);
        at = put(bytes, at, 0x31, sp & 255, sp >> 8);
        put(bytes, at, 0xC3, CODE_AT, 0);
        put(bytes, CODE_AT, code, random.nextInt(256), random.nextInt(256));
        return bytes;
    }

    private static int put(int[] bytes, int at, int... values) {
        System.arraycopy(values, 0, bytes, at, values.length);
        return at + values.length;
    }

    private static void compare(int code, Random random) {
        InvaderBoard board = Boards.with(program(code, random));
        PlainBoard plain = new PlainBoard();
        for (int i = 0; i < CODE_AT + 3; i++) {
            plain.bytes[i] = board.memory(i);
        }
        for (int i = 0; i < 24; i++) {
            int address = i < 2 ? 0x2000 + i : random.nextInt(65536);
            int value = random.nextInt(256);
            board.poke(address, value);
            plain.put(address, value);
        }
        for (int i = 0; i < 3; i++) {
            plain.in[i] = random.nextInt(256);
            board.input(i, plain.in[i]);
        }
        for (int i = 0; i < SETUP_STEPS; i++) {
            Check.due("set up", board.step(), plain.step());
        }
        int hl = plain.register(4) * 256 + plain.register(5);
        int value = random.nextInt(256);
        board.poke(hl, value);
        plain.put(hl, value);
        String name = "code " + Integer.toHexString(code);
        for (int i = 0; i < 2; i++) {
            Check.due(name + " states", board.step(), plain.step());
            compareRegisters(name, board, plain);
            compareMemory(name, board, plain, hl);
            compareMemory(name, board, plain, plain.register(8));
        }
    }

    private static void compareRegisters(String name, InvaderBoard board, PlainBoard plain) {
        for (int r = 0; r < 12; r++) {
            Check.due(name + " register " + r, board.register(r), plain.register(r));
        }
        for (int what = 0; what < 7; what++) {
            Check.due(name + " state " + what, board.state(what), plain.state(what));
        }
    }

    private static void compareMemory(String name, InvaderBoard board, PlainBoard plain, int middle) {
        for (int i = middle - 3; i <= middle + 3; i++) {
            Check.due(name + " memory " + i, board.memory(i), plain.get(i));
        }
    }

    /** ALU codes with an immediate byte: every A and byte, with and without CARRY. */
    private static void compareAllSums() {
        for (int kind = 0; kind < 8; kind++) {
            for (int a = 0; a < 256; a++) {
                InvaderBoard board = null;
                for (int value = 0; value < 256; value++) {
                    for (int carry = 0; carry < 2; carry++) {
                        if (value % 32 == 0 && carry == 0) {
                            board = new InvaderBoard();
                        }
                        compareSum(board, kind, a, value, carry);
                    }
                }
            }
        }
    }

    private static void compareSum(InvaderBoard board, int kind, int a, int value, int carry) {
        board.reset();
        board.load(0, 0x37003E00 | (carry == 1 ? 0 : 0x3F0000) | a, 4);
        board.load(4, 0xC600 | kind << 11 | value, 2);
        board.run(20);
        int want = wantedSum(kind, a, value, carry);
        String name = "ALU kind " + kind + " of " + a + ", " + value + ", carry " + carry;
        Check.due(name + ": A", board.register(Boards.A), want >> 8);
        Check.due(name + ": flags", board.register(Boards.FLAGS), want & 255);
    }

    /** By the document's words: A in the upper byte, the flags in the lower one. */
    private static int wantedSum(int kind, int a, int value, int carry) {
        int with = kind == 1 || kind == 3 ? carry : 0;
        int result;
        int aux = 0;
        int over = 0;
        if (kind < 2) {
            result = a + value + with;
            aux = a % 16 + value % 16 + with > 15 ? 16 : 0;
            over = result > 255 ? 1 : 0;
        } else if (kind < 4 || kind == 7) {
            result = a - value - with;
            aux = a % 16 + (255 - value) % 16 + 1 - with > 15 ? 16 : 0;
            over = result < 0 ? 1 : 0;
        } else if (kind == 4) {
            result = a & value;
            aux = a / 8 % 2 == 1 || value / 8 % 2 == 1 ? 16 : 0;
        } else {
            result = kind == 5 ? a ^ value : a | value;
        }
        result &= 255;
        int even = Integer.toBinaryString(result).replace("0", "").length() % 2 == 0 ? 4 : 0;
        int flags = (result > 127 ? 128 : 0) | (result == 0 ? 64 : 0) | aux | even | 2 | over;
        return (kind == 7 ? a : result) << 8 | flags;
    }

    /** DAA behind POP PSW: every A with every AUXILIARY and CARRY. */
    private static void compareAllDecimals() {
        for (int a = 0; a < 256; a++) {
            for (int flags = 0; flags < 256; flags++) {
                InvaderBoard board = Boards.with(0x31, 0x00, 0x20, 0xF1, 0x27);
                PlainBoard plain = new PlainBoard();
                for (int i = 0; i < 5; i++) {
                    plain.bytes[i] = board.memory(i);
                }
                board.poke(0x2000, flags);
                board.poke(0x2001, a);
                plain.put(0x2000, flags);
                plain.put(0x2001, a);
                for (int i = 0; i < 3; i++) {
                    board.step();
                    plain.step();
                    Check.due("DAA of " + a + ": flags", board.register(Boards.FLAGS), plain.register(6));
                    Check.due("DAA of " + a, board.register(Boards.A), plain.register(7));
                }
            }
        }
    }
}
