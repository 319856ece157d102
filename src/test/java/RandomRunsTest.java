import java.util.Random;

/** Promises 1 to 13 at once: random programs and calls, compared with the plain board. */
public final class RandomRunsTest {
    private static final int[] PORTS = {0, 1, 2, 3, 4, 5, 6, 7, 255};

    private final Random random;
    private final InvaderBoard board = new InvaderBoard();
    private final PlainBoard plain = new PlainBoard();
    private final String name;

    private RandomRunsTest(int seed) {
        random = new Random(seed);
        name = "seed " + seed + " ";
    }

    public static void main(String[] args) {
        Check.of(Sentence.WHAT_IT_IS);
        for (int seed = 0; seed < 500; seed++) {
            RandomRunsTest test = new RandomRunsTest(seed);
            test.fillRom();
            test.callAtRandom(360);
        }
        Check.finish();
    }

    private void fillRom() {
        int size = random.nextInt(3) == 0 ? 64 : 256;
        for (int i = 0; i < size; i += 4) {
            int word = 0;
            for (int j = 0; j < 4; j++) {
                word = word << 8 | randomCode();
            }
            loadBoth(i, word, 4);
        }
    }

    private int randomCode() {
        switch (random.nextInt(16)) {
            case 0: return 0xFB;
            case 1: return 0x76;
            case 2: return 0xD3;
            case 3: return PORTS[random.nextInt(PORTS.length)];
            case 4: return 0x20 + random.nextInt(32);
            default: return random.nextInt(256);
        }
    }

    private void loadBoth(int address, int word, int n) {
        Check.due(name + "load", board.load(address, word, n), address + n);
        for (int i = 0; i < n; i++) {
            plain.bytes[address + i] = word >> (n - 1 - i) * 8 & 255;
        }
    }

    private void callAtRandom(int calls) {
        for (int i = 0; i < calls; i++) {
            callOne(name + "call " + i);
        }
        for (int r = 0; r < 12; r++) {
            Check.due(name + "register " + r, board.register(r), plain.register(r));
        }
        for (int what = 0; what < 7; what++) {
            Check.due(name + "state " + what, board.state(what), plain.state(what));
        }
        for (int bit = 0; bit < 16; bit++) {
            Check.due(name + "sounds " + bit, board.sounds(bit), plain.counts[bit]);
        }
    }

    private void callOne(String call) {
        int address = random.nextInt(65536);
        int value = random.nextInt();
        switch (random.nextInt(24)) {
            case 0:
                int n = 1 + random.nextInt(4);
                loadBoth(random.nextInt(256), value, n);
                break;
            case 1:
                if (random.nextInt(10) == 0) {
                    board.reset();
                    plain.reset();
                }
                break;
            case 2:
                board.input(address % 3, value);
                plain.in[address % 3] = value & 255;
                break;
            case 3:
            case 4:
                int states = 1 + random.nextInt(random.nextBoolean() ? 50 : 40000);
                Check.due(call + " run", board.run(states), plain.run(states));
                break;
            case 5:
                Check.due(call + " memory", board.memory(value), plain.get(value));
                break;
            case 6:
                int answer = board.poke(value, address);
                plain.put(value, address);
                Check.due(call + " poke", answer, plain.get(value));
                break;
            case 7:
                int x = random.nextInt(224);
                int y = random.nextInt(256);
                Check.due(call + " dot", board.dot(x, y), plain.dot(x, y));
                break;
            case 8:
                litBoth(call);
                break;
            case 9:
                int r = random.nextInt(12);
                Check.due(call + " register " + r, board.register(r), plain.register(r));
                break;
            case 10:
                int what = random.nextInt(7);
                Check.due(call + " state " + what, board.state(what), plain.state(what));
                break;
            default:
                Check.due(call + " step", board.step(), plain.step());
                break;
        }
    }

    private void litBoth(String call) {
        int x = random.nextInt(300) - 40;
        int y = random.nextInt(330) - 40;
        int w = random.nextInt(300) - 20;
        int h = random.nextInt(300) - 20;
        Check.due(call + " lit", board.lit(x, y, w, h), plain.lit(x, y, w, h));
    }
}
