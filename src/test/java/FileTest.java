/** Promises 17 (save), 18 (alter), 19 (cut) and 20 (byteAt). */
final class FileTest {
    private static final int NONE = QuantisedLists.NONE;
    private static final int[] FOUR = {0, 0, 0, 0, 4, 0, 0, 0, 0, 0, 6, 0, 4, 0, 6, 1};

    public static void main(String[] args) {
        promise17Flat();
        promise17Product();
        promise17Scalar();
        promise17Lengths();
        promise17ReplacesTheFile();
        promise17NotWhenNotTrained();
        promise18Edges();
        promise18AtMost250();
        promise19Edges();
        promise20Edges();
        Check.end();
    }

    private static String text(int... bytes) {
        StringBuilder all = new StringBuilder();
        for (int b : bytes) {
            all.append(all.length() == 0 ? "" : " ").append(b);
        }
        return all.toString();
    }

    private static void promise17Flat() {
        QuantisedLists index = Looks.withSamples(1, 2, 3, 4);
        index.train(1, 2, 1, 0);
        index.add(258, -100, 0, 100, 7);
        Check.due("save()", index.save(), 25);
        Check.due("bytes", Looks.bytes(index),
                "86 1 2 1 1 1 5 6 7 8 1 45 1 46 1 47 1 48 1 2 0 100 200 107 68");
        Check.due("save() again", index.save(), 25);
        index.add(256, 0, 0, 0, 0);
        index.add(512, 0, 0, 0, 0);
        Check.due("save() with more", index.save(), 37);
        Check.due("bytes", Looks.bytes(index), text(Looks.checked(86, 1, 2, 1, 1, 3, 5, 6, 7, 8,
                1, 45, 1, 46, 1, 47, 1, 48, 1, 0, 100, 100, 100, 100, 1, 2, 0, 100, 200, 107,
                2, 0, 100, 100, 100, 100)));
        Check.due("load()", index.load(), 0);
    }

    private static void promise17Product() {
        QuantisedLists index = Looks.withSamples(FOUR);
        index.train(1, 0, 2, 1);
        index.add(999, 100, -100, 1, -1);
        index.add(0, 0, 0, 0, 0);
        index.add(256, 1, 2, 3, 4);
        index.add(255, 5, 6, 7, 8);
        index.remove(256);
        Check.due("save()", index.save(), 53);
        Check.due("bytes", Looks.bytes(index), text(Looks.checked(86, 1, 0, 1, 2, 3, 5, 6, 7, 8,
                1, 46, 1, 44, 1, 47, 1, 44,
                1, 42, 1, 44, 1, 46, 1, 44, 1, 41, 1, 44, 1, 47, 1, 44,
                0, 0, 100, 100, 100, 100, 0, 255, 105, 106, 107, 108, 3, 231, 200, 0, 101, 99)));
    }

    private static void promise17Scalar() {
        QuantisedLists index = new QuantisedLists();
        index.turn(-4, 1, -2, 3);
        Looks.giveSamples(index, 10, 20, 30, 40, -100, 100, 0, 99);
        Check.due("train", index.train(2, 1, 1, 0), 0);
        Check.due("centres", Looks.centres(index), "-40,10,-20,30 -99,-100,-100,0");
        index.add(7, 1, 2, 3, 4);
        Check.due("save()", index.save(), 41);
        Check.due("bytes", Looks.bytes(index), text(Looks.checked(86, 1, 1, 2, 1, 1, 0, 5, 2, 7,
                1, 4, 1, 54, 1, 24, 1, 74, 0, 201, 0, 200, 0, 200, 1, 44,
                1, 44, 1, 44, 1, 44, 1, 44,
                0, 7, 101, 102, 103, 104)));
        QuantisedLists words = Looks.withSamples(FOUR);
        words.train(1, 1, 2, 1);
        Check.due("words", Looks.words(words), "-2 2 / 0 0 / -3 3 / 0 1");
        Check.due("save()", words.save(), 35);
        Check.due("bytes", Looks.bytes(words), text(Looks.checked(86, 1, 1, 1, 2, 0, 5, 6, 7, 8,
                1, 46, 1, 44, 1, 47, 1, 44,
                1, 42, 1, 46, 1, 44, 1, 44, 1, 41, 1, 47, 1, 44, 1, 45)));
    }

    private static void promise17Lengths() {
        for (int kind = 0; kind <= 2; kind++) {
            for (int lists = 1; lists <= 4; lists++) {
                for (int codes = 1; codes <= 4; codes++) {
                    QuantisedLists index = Looks.withSamples(FOUR);
                    index.train(lists, kind, codes, 2);
                    int empty = 11 + 8 * lists + (kind == 2 ? 0 : 8 * codes);
                    Check.due("save() without entries", index.save(), empty);
                    for (int id = 0; id < 20; id++) {
                        index.add(id, id, 0, id, 0);
                    }
                    Check.due("save() with 20 entries", index.save(), empty + 120);
                    Check.due("byteAt(4), codes", index.byteAt(4), codes);
                    Check.due("byteAt(5), entries", index.byteAt(5), 20);
                    Check.due("load()", index.load(), 0);
                }
            }
        }
    }

    private static void promise17ReplacesTheFile() {
        QuantisedLists index = Looks.withSamples(1, 2, 3, 4);
        for (int p = 0; p < 250; p++) {
            index.alter(p, 9);
        }
        index.train(1, 2, 3, 0);
        Check.due("save()", index.save(), 19);
        Check.due("byteAt(19)", index.byteAt(19), NONE);
        Check.due("alter(20, 1)", index.alter(20, 1), false);
        Check.due("load()", index.load(), 0);
        index.add(1, 0, 0, 0, 0);
        Check.due("byteAt(5) before the next save", index.byteAt(5), 0);
        Check.due("save()", index.save(), 25);
        Check.due("byteAt(5) after it", index.byteAt(5), 1);
    }

    private static void promise17NotWhenNotTrained() {
        QuantisedLists index = Looks.withSamples(1, 2, 3, 4);
        index.alter(0, 77);
        Check.due("save() when not trained", index.save(), NONE);
        Check.due("bytes", Looks.bytes(index), "77");
    }

    private static void promise18Edges() {
        QuantisedLists index = new QuantisedLists();
        Check.due("alter(0, 256)", index.alter(0, 256), false);
        Check.due("alter(0, -1)", index.alter(0, -1), false);
        Check.due("alter(0, greatest)", index.alter(0, Integer.MAX_VALUE), false);
        Check.due("alter(0, least)", index.alter(0, Integer.MIN_VALUE), false);
        Check.due("bytes", Looks.bytes(index), "");
        Check.due("alter(0, 255)", index.alter(0, 255), true);
        Check.due("alter(1, 0)", index.alter(1, 0), true);
        Check.due("alter(2, 7)", index.alter(2, 7), true);
        Check.due("alter(1, 9)", index.alter(1, 9), true);
        Check.due("alter(4, 1)", index.alter(4, 1), false);
        Check.due("alter(-1, 1)", index.alter(-1, 1), false);
        Check.due("alter(greatest, 1)", index.alter(Integer.MAX_VALUE, 1), false);
        Check.due("alter(least, 1)", index.alter(Integer.MIN_VALUE, 1), false);
        Check.due("alter(1, 256)", index.alter(1, 256), false);
        Check.due("bytes", Looks.bytes(index), "255 9 7");
    }

    private static void promise18AtMost250() {
        QuantisedLists index = new QuantisedLists();
        for (int p = 0; p < 250; p++) {
            Check.due("alter(" + p + ", 3)", index.alter(p, 3), true);
        }
        Check.due("alter(250, 3)", index.alter(250, 3), false);
        Check.due("alter(251, 3)", index.alter(251, 3), false);
        Check.due("alter(249, 4)", index.alter(249, 4), true);
        Check.due("byteAt(249)", index.byteAt(249), 4);
        Check.due("byteAt(250)", index.byteAt(250), NONE);
        Check.due("cut(251)", index.cut(251), false);
        Check.due("cut(250)", index.cut(250), true);
        Check.due("byteAt(249)", index.byteAt(249), 4);
        Check.due("load()", index.load(), 2);
    }

    private static void promise19Edges() {
        QuantisedLists index = new QuantisedLists();
        Looks.writeFile(index, 1, 2, 3, 4, 5);
        int[] wrong = {-1, 6, 250, Integer.MIN_VALUE, Integer.MAX_VALUE};
        for (int n : wrong) {
            Check.due("cut(" + n + ")", index.cut(n), false);
        }
        Check.due("bytes", Looks.bytes(index), "1 2 3 4 5");
        Check.due("cut(5)", index.cut(5), true);
        Check.due("bytes", Looks.bytes(index), "1 2 3 4 5");
        Check.due("cut(2)", index.cut(2), true);
        Check.due("bytes", Looks.bytes(index), "1 2");
        Check.due("cut(3)", index.cut(3), false);
        Check.due("alter(2, 9)", index.alter(2, 9), true);
        Check.due("bytes", Looks.bytes(index), "1 2 9");
        Check.due("cut(0)", index.cut(0), true);
        Check.due("bytes", Looks.bytes(index), "");
        Check.due("cut(1)", index.cut(1), false);
    }

    private static void promise20Edges() {
        QuantisedLists index = new QuantisedLists();
        Check.due("byteAt(0) of an empty file", index.byteAt(0), NONE);
        Looks.writeFile(index, 0, 255);
        Check.due("byteAt(0)", index.byteAt(0), 0);
        Check.due("byteAt(1)", index.byteAt(1), 255);
        int[] none = {-1, 2, 249, 250, Integer.MIN_VALUE, Integer.MAX_VALUE};
        for (int p : none) {
            Check.due("byteAt(" + p + ")", index.byteAt(p), NONE);
        }
        index.cut(1);
        Check.due("byteAt(1) after cut(1)", index.byteAt(1), NONE);
    }
}
