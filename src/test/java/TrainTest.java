/** Promises 4 (train), 5 (centre) and 6 (word), and the clustering behind them. */
final class TrainTest {
    private static final int ABSENT = QuantisedLists.ABSENT;
    private static final int[] FOUR = {0, 0, 0, 0, 4, 0, 0, 0, 0, 0, 6, 0, 4, 0, 6, 1};

    public static void main(String[] args) {
        clusteringChoosesTheFarthest();
        clusteringMovesToMeans();
        clusteringFillsEmptyCentres();
        promise4Product();
        promise4Scalar();
        promise4Flat();
        promise4Reasons();
        promise4Replaces();
        promise4RefusedChangesNothing();
        promise5Edges();
        promise6Edges();
        Check.end();
    }

    private static void flat(String want, int lists, int rounds, int... samples) {
        QuantisedLists index = Looks.withSamples(samples);
        Check.due("train", index.train(lists, 2, 1, rounds), 0);
        Check.due("centres", Looks.centres(index), want);
    }

    /** Samples with the first coordinate alone: each number is followed by how often it is given. */
    private static int[] line(int... valuesAndTimes) {
        java.util.List<Integer> all = new java.util.ArrayList<>();
        for (int i = 0; i < valuesAndTimes.length; i += 2) {
            for (int n = 0; n < valuesAndTimes[i + 1]; n++) {
                all.addAll(java.util.List.of(valuesAndTimes[i], 0, 0, 0));
            }
        }
        return all.stream().mapToInt(v -> v).toArray();
    }

    private static void clusteringChoosesTheFarthest() {
        int[] samples = {0, 0, 0, 0, 10, 0, 0, 0, 0, 10, 0, 0, 3, 0, 0, 0};
        flat("0,0,0,0", 1, 0, samples);
        flat("0,0,0,0 10,0,0,0", 2, 0, samples);
        flat("0,0,0,0 10,0,0,0 0,10,0,0", 3, 0, samples);
        flat("0,0,0,0 10,0,0,0 0,10,0,0 3,0,0,0", 4, 0, samples);
        flat("5,6,7,8 5,6,7,8 5,6,7,8", 3, 0, 5, 6, 7, 8);
        flat("1,0,0,0 1,0,8,9 1,0,0,9", 3, 0, 1, 0, 0, 0, 1, 7, 0, 0, 1, 0, 0, 9, 1, 0, 8, 9);
    }

    private static void clusteringMovesToMeans() {
        flat("1,0,0,0 4,0,0,0", 2, 1, line(0, 1, 4, 1, 2, 1));
        flat("-2,0,0,0", 1, 1, line(-1, 1, -2, 1));
        flat("1,0,0,0", 1, 1, line(1, 1, 2, 1));
        flat("-1,-1,-1,-1", 1, 1, 0, 0, 0, 0, -1, -1, -1, -1, 0, 0, 0, 0);
        flat("-1,2,-3,4", 1, 8, -1, 2, -3, 4);
        // 6 is as near to 0 as to 12 at first, and nearer to the other centre once that has moved to 9
        flat("1,0,0,0 9,0,0,0", 2, 1, line(0, 3, 6, 1, 12, 1, 8, 2));
        flat("0,0,0,0 8,0,0,0", 2, 2, line(0, 3, 6, 1, 12, 1, 8, 2));
        flat("0,0,0,0 8,0,0,0", 2, 8, line(0, 3, 6, 1, 12, 1, 8, 2));
        // the centre -1 of 1 and -2 loses the 1 and moves to its only member
        flat("3,0,0,0 -1,0,0,0", 2, 1, line(5, 1, 2, 1, 1, 1, -2, 1));
        flat("2,0,0,0 -2,0,0,0", 2, 2, line(5, 1, 2, 1, 1, 1, -2, 1));
    }

    private static void clusteringFillsEmptyCentres() {
        // shares 4, 2 2, 1 2 1: then the filled centre 1 has the greatest
        flat("7,0,0,0 8,0,0,0 8,0,0,0 9,0,0,0", 4, 1, line(7, 4));
        flat("7,0,0,0 8,0,0,0 8,0,0,0 9,0,0,0", 4, 3, line(7, 4));
        // shares 5, 3 2, 2 2 1: then centre 0 as the least of two
        flat("7,0,0,0 8,0,0,0 8,0,0,0 8,0,0,0", 4, 1, line(7, 5));
        flat("7,0,0,0 8,0,0,0 8,0,0,0 8,0,0,0", 4, 1, line(7, 1));
        flat("0,0,0,0 10,0,0,0 1,0,0,0 1,0,0,0", 4, 1, line(0, 3, 10, 2));
        flat("0,0,0,0 10,0,0,0 1,0,0,0 11,0,0,0", 4, 1, line(0, 3, 10, 3));
        flat("0,0,0,0 10,0,0,0 11,0,0,0 1,0,0,0", 4, 1, line(0, 2, 10, 3));
        flat("0,0,0,0 10,0,0,0 11,0,0,0 11,0,0,0", 4, 1, line(0, 1, 10, 5));
        flat("3,4,5,6 4,4,5,6", 2, 1, 3, 4, 5, 6);
        flat("100,4,5,6 101,4,5,6", 2, 8, 100, 4, 5, 6);
        // rounding down moves centre 0 away from all items: it has no members in the third round
        int[] six = {1, 0, -1, 0, 1, 0, 0, 0, -1, 0, 0, -1, 0, 1, 1, 1, 1, 0, 1, 1, 0, -1, 0, 0};
        flat("0,-1,-1,-1 0,0,1,1", 2, 1, six);
        flat("0,-1,-1,-1 0,0,0,0", 2, 2, six);
        flat("1,0,0,0 0,0,0,0", 2, 3, six);
    }

    private static void promise4Product() {
        QuantisedLists index = Looks.withSamples(FOUR);
        Check.due("train(1, 0, 2, 0)", index.train(1, 0, 2, 0), 1);
        Check.due("centres", Looks.centres(index), "0,0,0,0");
        Check.due("words", Looks.words(index), "0,0 4,0 / 0,0 6,1");
        Check.due("train(1, 0, 2, 1)", index.train(1, 0, 2, 1), 1);
        Check.due("centres", Looks.centres(index), "2,0,3,0");
        Check.due("words", Looks.words(index), "-2,0 2,0 / -3,0 3,0");
        Check.due("train(1, 0, 1, 1)", index.train(1, 0, 1, 1), 53);
        Check.due("words", Looks.words(index), "0,0 / 0,0");
        // nothing is left of a sample that is a centre, and 3 of 4 words stay without members
        Check.due("train(4, 0, 4, 1)", index.train(4, 0, 4, 1), 0);
        Check.due("words", Looks.words(index), "0,0 1,0 1,0 2,0 / 0,0 1,0 1,0 2,0");
    }

    private static void promise4Scalar() {
        QuantisedLists index = Looks.withSamples(FOUR);
        Check.due("train(1, 1, 4, 0)", index.train(1, 1, 4, 0), 0);
        Check.due("words", Looks.words(index), "0 1 2 4 / 0 0 0 0 / 0 2 4 6 / 0 0 0 1");
        Check.due("train(1, 1, 3, 0)", index.train(1, 1, 3, 0), 0);
        Check.due("words", Looks.words(index), "0 2 4 / 0 0 0 / 0 3 6 / 0 0 1");
        Check.due("train(1, 1, 2, 1)", index.train(1, 1, 2, 1), 0);
        Check.due("words", Looks.words(index), "-2 2 / 0 0 / -3 3 / 0 1");
        Check.due("train(1, 1, 1, 0)", index.train(1, 1, 1, 0), 105);
        Check.due("words", Looks.words(index), "0 / 0 / 0 / 0");
        QuantisedLists below = Looks.withSamples(line(0, 1, -5, 1));
        Check.due("train(1, 1, 4, 0)", below.train(1, 1, 4, 0), 0);
        Check.due("words", Looks.words(below), "-5 -4 -2 0 / 0 0 0 0 / 0 0 0 0 / 0 0 0 0");
        Check.due("train(1, 1, 1, 0)", below.train(1, 1, 1, 0), 25);
        Check.due("words", Looks.words(below), "-5 / 0 / 0 / 0");
        QuantisedLists above = Looks.withSamples(line(-5, 1, 0, 1));
        Check.due("train(1, 1, 2, 0)", above.train(1, 1, 2, 0), 0);
        Check.due("words", Looks.words(above), "0 5 / 0 0 / 0 0 / 0 0");
        QuantisedLists full = new QuantisedLists();
        for (int i = 0; i < 24; i++) {
            full.sample(50 - i, i, 0, 0);
        }
        Check.due("train(1, 1, 2, 0) with 24 samples", full.train(1, 1, 2, 0), 2024);
        Check.due("words", Looks.words(full), "-23 0 / 0 23 / 0 0 / 0 0");
    }

    private static void promise4Flat() {
        QuantisedLists index = Looks.withSamples(FOUR);
        Check.due("train(1, 2, 4, 8)", index.train(1, 2, 4, 8), 0);
        Check.due("words", Looks.words(index), "");
    }

    private static void promise4Reasons() {
        QuantisedLists index = new QuantisedLists();
        Check.due("train without sample", index.train(0, 0, 0, 0), -1);
        Looks.writeFile(index, Looks.checked(86, 1, 2, 1, 1, 1, 5, 6, 7, 8, 1, 44, 1, 44, 1, 44, 1, 44,
                0, 7, 100, 100, 100, 100));
        Check.due("load", index.load(), 0);
        Check.due("train without sample, with an entry", index.train(0, 0, 0, 0), -1);
        Looks.giveSamples(index, 1, 1, 1, 1);
        Check.due("train with an entry", index.train(0, 0, 0, 0), -2);
        index.remove(7);
        int[][] wrong = {{0, 0, 1, 0}, {5, 0, 1, 0}, {1, -1, 1, 0}, {1, 3, 1, 0}, {1, 0, 0, 0}, {1, 0, 5, 0},
            {1, 0, 1, -1}, {1, 0, 1, 9}, {1, 2, 0, 0}, {1, 2, 5, 0}, {-1, 0, 1, 0},
            {Integer.MIN_VALUE, 0, 1, 0}, {1, Integer.MAX_VALUE, 1, 0}, {1, 0, Integer.MAX_VALUE, 0},
            {1, 0, 1, Integer.MAX_VALUE}, {1, 0, 1, Integer.MIN_VALUE}};
        for (int[] a : wrong) {
            Check.due("train(" + a[0] + ", " + a[1] + ", " + a[2] + ", " + a[3] + ")",
                    index.train(a[0], a[1], a[2], a[3]), -3);
        }
        int[][] right = {{1, 0, 1, 0}, {4, 0, 1, 0}, {1, 2, 1, 0}, {1, 0, 4, 0}, {1, 0, 1, 8}, {1, 1, 4, 8}};
        for (int[] a : right) {
            Check.due("train(" + a[0] + ", " + a[1] + ", " + a[2] + ", " + a[3] + ")",
                    index.train(a[0], a[1], a[2], a[3]), 0);
        }
    }

    private static void promise4Replaces() {
        QuantisedLists index = Looks.withSamples(FOUR);
        index.train(4, 1, 4, 0);
        Check.due("entries(3)", index.entries(3), 0);
        index.train(2, 0, 2, 0);
        Check.due("entries(2) of two lists", index.entries(2), -1);
        Check.due("centres", Looks.centres(index), "0,0,0,0 4,0,6,1");
        Check.due("centre(2, 0) of two lists", index.centre(2, 0), ABSENT);
        Check.due("word(2, 0, 0) of PRODUCT", index.word(2, 0, 0), ABSENT);
        Check.due("word(0, 2, 0) of two words", index.word(0, 2, 0), ABSENT);
        index.train(1, 2, 2, 0);
        Check.due("word(0, 0, 0) of FLAT", index.word(0, 0, 0), ABSENT);
    }

    private static void promise4RefusedChangesNothing() {
        QuantisedLists index = Looks.withSamples(FOUR);
        Check.due("train that is refused", index.train(1, 0, 5, 0), -3);
        Check.due("save when not trained", index.save(), -1);
        Check.due("train", index.train(1, 0, 2, 1), 1);
        index.add(3, 0, 0, 0, 0);
        Check.due("train with an entry", index.train(2, 1, 4, 0), -2);
        Check.due("centres", Looks.centres(index), "2,0,3,0");
        Check.due("words", Looks.words(index), "-2,0 2,0 / -3,0 3,0");
        index.remove(3);
        Check.due("train that is refused", index.train(2, 1, 4, 9), -3);
        Check.due("centres", Looks.centres(index), "2,0,3,0");
        Check.due("words", Looks.words(index), "-2,0 2,0 / -3,0 3,0");
    }

    private static void promise5Edges() {
        QuantisedLists index = Looks.withSamples(1, 2, 3, 4, -50, -60, -70, -80);
        Check.due("centre when not trained", index.centre(0, 0), ABSENT);
        index.train(2, 0, 1, 0);
        Check.due("centre(0, 0)", index.centre(0, 0), 1);
        Check.due("centre(0, 3)", index.centre(0, 3), 4);
        Check.due("centre(1, 0)", index.centre(1, 0), -50);
        Check.due("centre(1, 3)", index.centre(1, 3), -80);
        int[][] none = {{-1, 0}, {2, 0}, {3, 0}, {4, 0}, {0, -1}, {0, 4}, {Integer.MIN_VALUE, 0},
            {Integer.MAX_VALUE, 0}, {0, Integer.MIN_VALUE}, {0, Integer.MAX_VALUE}, {-1, 4}};
        for (int[] a : none) {
            Check.due("centre(" + a[0] + ", " + a[1] + ")", index.centre(a[0], a[1]), ABSENT);
        }
    }

    private static void promise6Edges() {
        QuantisedLists index = Looks.withSamples(FOUR);
        Check.due("word when not trained", index.word(0, 0, 0), ABSENT);
        index.train(1, 0, 2, 0);
        Check.due("word(1, 1, 0) of PRODUCT", index.word(1, 1, 0), 6);
        Check.due("word(1, 1, 1) of PRODUCT", index.word(1, 1, 1), 1);
        int[][] none = {{-1, 0, 0}, {2, 0, 0}, {0, -1, 0}, {0, 2, 0}, {0, 3, 0}, {0, 0, -1}, {0, 0, 2},
            {Integer.MAX_VALUE, 0, 0}, {0, Integer.MAX_VALUE, 0}, {0, 0, Integer.MAX_VALUE},
            {Integer.MIN_VALUE, 0, 0}, {0, Integer.MIN_VALUE, 0}, {0, 0, Integer.MIN_VALUE}};
        for (int[] a : none) {
            Check.due("word(" + a[0] + ", " + a[1] + ", " + a[2] + ") of PRODUCT",
                    index.word(a[0], a[1], a[2]), ABSENT);
        }
        index.train(1, 1, 4, 0);
        Check.due("word(3, 3, 0) of SCALAR", index.word(3, 3, 0), 1);
        Check.due("word(4, 0, 0) of SCALAR", index.word(4, 0, 0), ABSENT);
        Check.due("word(0, 4, 0) of SCALAR", index.word(0, 4, 0), ABSENT);
        Check.due("word(0, 0, 1) of SCALAR", index.word(0, 0, 1), ABSENT);
        index.train(1, 2, 4, 0);
        Check.due("word(0, 0, 0) of FLAT", index.word(0, 0, 0), ABSENT);
    }
}
