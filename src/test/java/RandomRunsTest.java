import java.util.Random;

/**
 * Many runs of calls, the same ones at every start, on the program and on PlainIndex, whose answers must agree:
 * all promises, 1 to 21. No run makes more than the 512 calls that the document speaks of.
 */
final class RandomRunsTest {
    private static final int RUNS = 4000;
    private static final int MOST_CALLS = 512;
    /** Calls kept back for looking at the whole object at the end of a run. */
    private static final int LOOK_CALLS = 320;

    private final Random random;
    private final int seed;
    private final int scale;
    private final int idScale;
    private final QuantisedLists real = new QuantisedLists();
    private final PlainIndex plain = new PlainIndex();
    private int calls = 0;

    private RandomRunsTest(int seed) {
        this.seed = seed;
        random = new Random(seed);
        scale = new int[] {1, 2, 5, 20, 100}[random.nextInt(5)];
        idScale = random.nextBoolean() ? 30 : 1000;
    }

    public static void main(String[] args) {
        for (int seed = 1; seed <= RUNS && Check.allRight(); seed++) {
            RandomRunsTest run = new RandomRunsTest(seed);
            switch (seed % 4) {
                case 0 -> run.anyCalls();
                case 1 -> run.trainAndSearch();
                case 2 -> run.writtenFile();
                default -> run.alteredFile();
            }
            run.lookAtAll();
        }
        Check.end();
    }

    private void same(String call, long got, long want) {
        calls++;
        if (calls > MOST_CALLS) {
            throw new IllegalStateException("run " + seed + " makes too many calls");
        }
        Check.due("run " + seed + ", call " + calls + ": " + call, got, want);
    }

    private void same(String call, boolean got, boolean want) {
        same(call, got ? 1 : 0, want ? 1 : 0);
    }

    /** A number from least - 1 to greatest + 1, the outer ones seldom. */
    private int about(int least, int greatest) {
        if (random.nextInt(40) == 0) {
            int[] wrong = {least - 1, greatest + 1, Integer.MIN_VALUE, Integer.MAX_VALUE};
            return wrong[random.nextInt(wrong.length)];
        }
        return least + random.nextInt(greatest - least + 1);
    }

    private int coordinate() {
        int rare = random.nextInt(150);
        if (rare == 0) {
            return random.nextBoolean() ? 101 : -101;
        }
        if (rare < 4) {
            return random.nextBoolean() ? 100 : -100;
        }
        return random.nextInt(2 * scale + 1) - scale;
    }

    private int id() {
        int rare = random.nextInt(60);
        return rare == 0 ? 1000 : rare == 1 ? -1 : rare == 2 ? 999 : rare == 3 ? 0 : random.nextInt(idScale);
    }

    private void turn() {
        int[] t = {1, 2, 3, 4};
        for (int i = 3; i > 0; i--) {
            int j = random.nextInt(i + 1);
            int swapped = t[i];
            t[i] = t[j];
            t[j] = swapped;
        }
        for (int i = 0; i < 4; i++) {
            t[i] = random.nextBoolean() ? t[i] : -t[i];
        }
        if (random.nextInt(5) == 0) {
            t[random.nextInt(4)] = about(-5, 5);
        }
        same("turn(" + t[0] + ", " + t[1] + ", " + t[2] + ", " + t[3] + ")",
                real.turn(t[0], t[1], t[2], t[3]), plain.turn(t[0], t[1], t[2], t[3]));
    }

    private void sample() {
        int x = coordinate();
        int y = coordinate();
        int z = coordinate();
        int w = coordinate();
        same("sample(" + x + ", " + y + ", " + z + ", " + w + ")", real.sample(x, y, z, w), plain.sample(x, y, z, w));
    }

    private void train() {
        int lists = about(1, 4);
        int kind = about(0, 2);
        int codes = about(1, 4);
        int rounds = about(0, 8);
        same("train(" + lists + ", " + kind + ", " + codes + ", " + rounds + ")",
                real.train(lists, kind, codes, rounds), plain.train(lists, kind, codes, rounds));
    }

    private void add() {
        int id = id();
        int x = coordinate();
        int y = coordinate();
        int z = coordinate();
        int w = coordinate();
        same("add(" + id + ", " + x + ", " + y + ", " + z + ", " + w + ")",
                real.add(id, x, y, z, w), plain.add(id, x, y, z, w));
    }

    private void remove() {
        int id = id();
        same("remove(" + id + ")", real.remove(id), plain.remove(id));
    }

    private void effort() {
        int probes = about(1, 4);
        int refine = about(0, 3);
        same("effort(" + probes + ", " + refine + ")", real.effort(probes, refine), plain.effort(probes, refine));
    }

    private void search() {
        int x = coordinate();
        int y = coordinate();
        int z = coordinate();
        int w = coordinate();
        int k = about(1, 8);
        same("search(" + x + ", " + y + ", " + z + ", " + w + ", " + k + ")",
                real.search(x, y, z, w, k), plain.search(x, y, z, w, k));
    }

    private void save() {
        same("save()", real.save(), plain.save());
    }

    private void load() {
        same("load()", real.load(), plain.load());
    }

    private void alter(int p, int b) {
        same("alter(" + p + ", " + b + ")", real.alter(p, b), plain.alter(p, b));
    }

    private void cut(int n) {
        same("cut(" + n + ")", real.cut(n), plain.cut(n));
    }

    private void anyCalls() {
        for (int i = 0; i < 150; i++) {
            switch (random.nextInt(24)) {
                case 0 -> turn();
                case 1, 2, 3, 4 -> sample();
                case 5 -> train();
                case 6, 7, 8, 9, 10, 11, 12 -> add();
                case 13, 14 -> remove();
                case 15 -> effort();
                case 16, 17 -> search();
                case 18 -> save();
                case 19 -> alter(about(0, Math.max(1, plain.fileLength())), about(0, 255));
                case 20 -> cut(about(0, Math.max(1, plain.fileLength())));
                case 21 -> load();
                case 22 -> lookAtEntry(id());
                default -> lookAtResults();
            }
        }
    }

    private void trainAndSearch() {
        if (random.nextBoolean()) {
            turn();
        }
        int samples = 1 + random.nextInt(26);
        for (int i = 0; i < samples; i++) {
            sample();
        }
        train();
        for (int i = 0; i < 24; i++) {
            add();
        }
        for (int i = 0; i < 5; i++) {
            effort();
            search();
            lookAtResults();
            remove();
            add();
        }
        train();
        save();
    }

    /** A file written byte by byte, well-formed but for one byte in some runs, with centres and words of any size. */
    private void writtenFile() {
        sample();
        sample();
        int kind = random.nextInt(3);
        int lists = 1 + random.nextInt(4);
        int codes = 1 + random.nextInt(4);
        int entries = random.nextInt(9);
        put(86, 1, kind, lists, codes, entries);
        int[][] turns = {{1, 2, 3, 4}, {-4, 3, -2, 1}, {2, -1, 4, -3}, {-3, -4, -1, -2}};
        for (int t : turns[random.nextInt(turns.length)]) {
            put(t + 4);
        }
        int wides = lists * 4 + (kind == 2 ? 0 : codes * 4);
        for (int i = 0; i < wides; i++) {
            int v = random.nextInt(8) == 0 ? 300 * (random.nextInt(3) - 1) : random.nextInt(2 * scale + 1) - scale;
            put((v + 300) / 256, (v + 300) % 256);
        }
        int id = random.nextInt(2);
        for (int i = 0; i < entries; i++) {
            put(id / 256, id % 256);
            for (int k = 0; k < 4; k++) {
                put(random.nextInt(2 * scale + 1) - scale + 100);
            }
            id += 1 + random.nextInt(110);
        }
        put(0);
        spoilOrNot();
        load();
        for (int i = 0; i < 2; i++) {
            effort();
            search();
        }
        train();
    }

    private void put(int... bytes) {
        for (int b : bytes) {
            alter(plain.fileLength(), b);
        }
    }

    private void spoilOrNot() {
        if (random.nextBoolean()) {
            alter(random.nextInt(plain.fileLength() - 1), random.nextInt(256));
        }
        if (random.nextInt(10) == 0) {
            cut(plain.fileLength() - 1);
        }
        if (random.nextInt(8) != 0) {
            alter(plain.fileLength() - 1, plain.dueCheck());
        }
    }

    /** A file that was saved, altered in one byte again and again, and read. */
    private void alteredFile() {
        turn();
        for (int i = 0; i < 10; i++) {
            sample();
        }
        train();
        for (int i = 0; i < 12; i++) {
            add();
        }
        search();
        for (int i = 0; i < 25; i++) {
            save();
            if (plain.fileLength() < 2) {
                return;
            }
            int place = random.nextInt(3) == 0 ? random.nextInt(Math.min(11, plain.fileLength()))
                    : random.nextInt(plain.fileLength());
            int b = random.nextBoolean() ? random.nextInt(256)
                    : Math.max(0, plain.byteAt(place) - 1 + random.nextInt(3));
            alter(place, b);
            if (random.nextInt(6) != 0) {
                alter(plain.fileLength() - 1, plain.dueCheck());
            }
            load();
            add();
        }
    }

    private void lookAtEntry(int id) {
        same("listOf(" + id + ")", real.listOf(id), plain.listOf(id));
    }

    private void lookAtResults() {
        int r = about(0, 8);
        same("hit(" + r + ")", real.hit(r), plain.hit(r));
        same("far(" + r + ")", real.far(r), plain.far(r));
        same("scanned()", real.scanned(), plain.scanned());
    }

    private void lookAtAll() {
        if (calls + LOOK_CALLS <= MOST_CALLS) {
            lookAtModel();
        }
        for (int r = -1; r < 9 && calls + 4 <= MOST_CALLS; r++) {
            same("hit(" + r + ")", real.hit(r), plain.hit(r));
            same("far(" + r + ")", real.far(r), plain.far(r));
        }
        for (int list = -1; list < 5 && calls + 4 <= MOST_CALLS; list++) {
            same("entries(" + list + ")", real.entries(list), plain.entries(list));
        }
        for (int id = 0; id < 1000 && calls + 4 <= MOST_CALLS; id++) {
            if (plain.listOf(id) != -1 || id % 200 == 0) {
                same("listOf(" + id + ")", real.listOf(id), plain.listOf(id));
                same("codeOf(" + id + ")", real.codeOf(id), plain.codeOf(id));
            }
        }
        for (int p = -1; p <= plain.fileLength() && calls + 4 <= MOST_CALLS; p++) {
            same("byteAt(" + p + ")", real.byteAt(p), plain.byteAt(p));
        }
        same("scanned()", real.scanned(), plain.scanned());
        save();
    }

    private void lookAtModel() {
        for (int list = -1; list < 5; list++) {
            for (int k = -1; k < 5; k++) {
                same("centre(" + list + ", " + k + ")", real.centre(list, k), plain.centre(list, k));
            }
        }
        for (int part = 0; part < 5; part++) {
            for (int number = 0; number < 5; number++) {
                for (int k = 0; k < 3; k++) {
                    same("word(" + part + ", " + number + ", " + k + ")",
                            real.word(part, number, k), plain.word(part, number, k));
                }
            }
        }
    }
}
