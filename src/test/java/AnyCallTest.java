import java.util.Random;

/**
 * Rule 7 of LANGUAGE.md: no call may ever throw, for any arguments in any state. This goes on after the 512 calls of
 * the document ("what later calls answer is free"), so that nothing is asked of the answers. A call that does not
 * end is stopped by TimeLimit.
 */
final class AnyCallTest {
    private static final int OBJECTS = 300;
    private static final int CALLS = 2000;
    private static final int[] WILD = {Integer.MIN_VALUE, Integer.MIN_VALUE + 1, Integer.MAX_VALUE, -1000, -301, -300,
        -256, -129, -101, -100, -5, -4, -1, 100, 101, 127, 128, 200, 201, 249, 250, 251, 255, 256, 300, 301, 999, 1000,
        65535, 65536};

    private final Random random;
    private final QuantisedLists index = new QuantisedLists();
    private int length = 0;

    private AnyCallTest(int seed) {
        random = new Random(seed);
    }

    public static void main(String[] args) {
        for (int seed = 1; seed <= OBJECTS; seed++) {
            new AnyCallTest(seed).callAll(seed);
        }
        Check.end();
    }

    private void callAll(int seed) {
        for (int i = 1; i <= CALLS; i++) {
            int call = random.nextInt(20);
            String thrown = "nothing";
            try {
                ask(call);
            } catch (RuntimeException | Error e) {
                thrown = e.toString();
            }
            Check.due("object " + seed + ", call " + i + " of kind " + call, thrown, "nothing");
        }
    }

    private int any(int least, int greatest) {
        return random.nextInt(12) == 0 ? WILD[random.nextInt(WILD.length)]
                : least + random.nextInt(greatest - least + 1);
    }

    private int coordinate() {
        return any(-100, 100);
    }

    private int sign() {
        return random.nextBoolean() ? 1 : -1;
    }

    private void ask(int call) {
        switch (call) {
            case 0 -> index.turn(sign() * any(1, 4), sign() * any(1, 4), sign() * any(1, 4), sign() * any(1, 4));
            case 1 -> index.sample(coordinate(), coordinate(), coordinate(), coordinate());
            case 2 -> index.train(any(1, 4), any(0, 2), any(1, 4), any(0, 8));
            case 3 -> index.centre(any(0, 3), any(0, 3));
            case 4 -> index.word(any(0, 3), any(0, 3), any(0, 1));
            case 5, 6 -> index.add(any(0, 40), coordinate(), coordinate(), coordinate(), coordinate());
            case 7 -> index.remove(any(0, 40));
            case 8 -> index.listOf(any(0, 40));
            case 9 -> index.codeOf(any(0, 40));
            case 10 -> index.entries(any(0, 3));
            case 11 -> index.effort(any(1, 4), any(0, 3));
            case 12 -> index.search(coordinate(), coordinate(), coordinate(), coordinate(), any(1, 8));
            case 13 -> index.hit(any(0, 7));
            case 14 -> index.far(any(0, 7));
            case 15 -> index.scanned();
            default -> askFile(call);
        }
    }

    private void askFile(int call) {
        switch (call) {
            case 16 -> saveFile();
            case 17 -> index.byteAt(any(0, 249));
            case 18 -> index.load();
            default -> changeFile();
        }
    }

    private void saveFile() {
        int saved = index.save();
        length = saved < 0 ? length : saved;
    }

    /** Mostly a byte is changed and the CHECK put right, so that load goes on to the later reasons. */
    private void changeFile() {
        if (random.nextInt(8) == 0) {
            int n = any(0, 250);
            length = index.cut(n) ? n : length;
            return;
        }
        int p = any(0, Math.max(1, length));
        if (index.alter(p, any(0, 255)) && p == length) {
            length++;
        }
        if (length > 0) {
            index.alter(length - 1, dueCheck());
            index.load();
        }
    }

    private int dueCheck() {
        int sum = 0;
        for (int p = 0; p < length - 1; p++) {
            sum += index.byteAt(p) * (p + 1);
        }
        return Math.floorMod(sum, 251);
    }
}
