/** Promises 1 (a new object), 2 (turn) and 3 (sample). */
final class BeginningTest {
    private static final int ABSENT = QuantisedLists.ABSENT;
    private static final int NONE = QuantisedLists.NONE;

    public static void main(String[] args) {
        promise1NothingThere();
        promise1FirstSettings();
        promise1ObjectsAreApart();
        promise2EveryTurn();
        promise2TheLatestTurnCounts();
        promise2NotWhenTrained();
        promise3Edges();
        promise3AtMost24();
        promise3StayForGood();
        Check.end();
    }

    private static void promise1NothingThere() {
        QuantisedLists index = new QuantisedLists();
        Check.due("centre of a new object", index.centre(0, 0), ABSENT);
        Check.due("word of a new object", index.word(0, 0, 0), ABSENT);
        Check.due("add to a new object", index.add(1, 0, 0, 0, 0), -1);
        Check.due("remove from a new object", index.remove(0), false);
        Check.due("listOf of a new object", index.listOf(0), NONE);
        Check.due("codeOf of a new object", index.codeOf(0), NONE);
        Check.due("entries of a new object", index.entries(0), NONE);
        Check.due("search in a new object", index.search(0, 0, 0, 0, 1), -1);
        Check.due("hit of a new object", index.hit(0), NONE);
        Check.due("far of a new object", index.far(0), NONE);
        Check.due("scanned of a new object", index.scanned(), 0);
        Check.due("save of a new object", index.save(), NONE);
        Check.due("byteAt of a new object", index.byteAt(0), NONE);
        Check.due("cut(1) of a new object", index.cut(1), false);
        Check.due("cut(0) of a new object", index.cut(0), true);
        Check.due("alter(1, 0) of a new object", index.alter(1, 0), false);
        Check.due("load of a new object", index.load(), 1);
        Check.due("train of a new object", index.train(1, 0, 1, 0), -1);
    }

    private static void promise1FirstSettings() {
        QuantisedLists index = Looks.withSamples(1, 2, 3, 4, 90, 90, 90, 90);
        index.train(2, 1, 1, 0);
        Check.due("centres by the first turn", Looks.centres(index), "1,2,3,4 90,90,90,90");
        index.add(1, 0, 0, 0, 0);
        index.add(2, 80, 80, 80, 80);
        Check.due("search by the first PROBES", index.search(0, 0, 0, 0, 8), 1);
        Check.due("results by the first REFINE", Looks.results(index), "1:30");
    }

    private static void promise1ObjectsAreApart() {
        QuantisedLists one = Looks.withSamples(1, 2, 3, 4);
        one.train(1, 2, 1, 0);
        one.add(1, 0, 0, 0, 0);
        one.save();
        QuantisedLists other = new QuantisedLists();
        Check.due("train of the other object", other.train(1, 2, 1, 0), -1);
        Check.due("listOf of the other object", other.listOf(1), NONE);
        Check.due("byteAt of the other object", other.byteAt(0), NONE);
    }

    private static void promise2EveryTurn() {
        for (int t0 = -5; t0 <= 5; t0++) {
            for (int t1 = -5; t1 <= 5; t1++) {
                for (int t2 = -5; t2 <= 5; t2++) {
                    for (int t3 = -5; t3 <= 5; t3++) {
                        oneTurn(t0, t1, t2, t3);
                    }
                }
            }
        }
        int[] wild = {Integer.MIN_VALUE, Integer.MAX_VALUE, 33, -33, 36, 65537};
        for (int t : wild) {
            Check.due("turn(" + t + ", 2, 3, 4)", new QuantisedLists().turn(t, 2, 3, 4), false);
            Check.due("turn(1, " + t + ", 3, 4)", new QuantisedLists().turn(1, t, 3, 4), false);
            Check.due("turn(1, 2, " + t + ", 4)", new QuantisedLists().turn(1, 2, t, 4), false);
            Check.due("turn(1, 2, 3, " + t + ")", new QuantisedLists().turn(1, 2, 3, t), false);
        }
    }

    private static void oneTurn(int... t) {
        boolean[] seen = new boolean[6];
        int different = 0;
        for (int step : t) {
            int axis = Math.abs(step);
            if (axis >= 1 && axis <= 4 && !seen[axis]) {
                seen[axis] = true;
                different++;
            }
        }
        QuantisedLists index = new QuantisedLists();
        String call = "turn(" + t[0] + ", " + t[1] + ", " + t[2] + ", " + t[3] + ")";
        Check.due(call, index.turn(t[0], t[1], t[2], t[3]), different == 4);
        index.sample(10, 20, 30, 40);
        index.train(1, 2, 1, 0);
        for (int k = 0; k < 4; k++) {
            Check.due("centre(0, " + k + ") after " + call, index.centre(0, k),
                    different == 4 ? 10 * t[k] : 10 * (k + 1));
        }
    }

    private static void promise2TheLatestTurnCounts() {
        QuantisedLists index = Looks.withSamples(10, 20, 30, 40);
        Check.due("first turn", index.turn(-1, -2, -3, -4), true);
        Check.due("second turn, after the sample", index.turn(4, -3, 2, -1), true);
        Check.due("third turn, refused", index.turn(1, 2, 3, 3), false);
        Check.due("train that is refused", index.train(5, 2, 1, 0), -3);
        Check.due("fourth turn, after it", index.turn(3, -1, 4, -2), true);
        index.train(1, 2, 1, 0);
        Check.due("centres", Looks.centres(index), "30,-10,40,-20");
        index.add(1, 31, 0, 0, 0);
        Check.due("far by turned points", index.search(30, 0, 0, 0, 1), 1);
        Check.due("results by turned points", Looks.results(index), "1:1");
    }

    private static void promise2NotWhenTrained() {
        QuantisedLists index = Looks.withSamples(10, 20, 30, 40);
        index.train(1, 2, 1, 0);
        Check.due("turn when trained", index.turn(4, 3, 2, 1), false);
        index.train(1, 2, 1, 0);
        Check.due("centres after the refused turn", Looks.centres(index), "10,20,30,40");
        QuantisedLists loaded = new QuantisedLists();
        Looks.writeFile(loaded, Looks.checked(86, 1, 2, 1, 1, 0, 5, 6, 7, 8, 1, 44, 1, 44, 1, 44, 1, 44));
        Check.due("load", loaded.load(), 0);
        Check.due("turn when loaded", loaded.turn(1, 2, 3, 4), false);
    }

    private static void promise3Edges() {
        int[] values = {-100, 100, -101, 101, Integer.MIN_VALUE, Integer.MAX_VALUE};
        for (int v : values) {
            boolean fits = v == 100 || v == -100;
            QuantisedLists index = new QuantisedLists();
            Check.due("sample with x " + v, index.sample(v, 0, 0, 0), fits);
            Check.due("sample with y " + v, index.sample(0, v, 0, 0), fits);
            Check.due("sample with z " + v, index.sample(0, 0, v, 0), fits);
            Check.due("sample with w " + v, index.sample(0, 0, 0, v), fits);
            Check.due("train after samples with " + v, index.train(1, 2, 1, 0), fits ? 0 : -1);
        }
    }

    private static void promise3AtMost24() {
        QuantisedLists index = new QuantisedLists();
        for (int i = 0; i < 24; i++) {
            Check.due("bad sample before " + i, index.sample(0, 0, 0, 101), false);
            Check.due("sample " + i, index.sample(i, 0, 0, 0), true);
        }
        Check.due("sample 24", index.sample(100, 0, 0, 0), false);
        index.train(1, 2, 1, 1);
        Check.due("centres of 24 samples", Looks.centres(index), "11,0,0,0");
        Check.due("sample 24 when trained", index.sample(100, 0, 0, 0), false);
    }

    private static void promise3StayForGood() {
        QuantisedLists index = Looks.withSamples(2, 0, 0, 0);
        index.train(1, 2, 1, 1);
        Looks.giveSamples(index, 4, 0, 0, 0);
        Check.due("centres before the next training", Looks.centres(index), "2,0,0,0");
        index.train(1, 2, 1, 1);
        Check.due("centres of both samples", Looks.centres(index), "3,0,0,0");
        Looks.writeFile(index, Looks.checked(86, 1, 2, 1, 1, 0, 3, 6, 7, 8, 1, 44, 1, 44, 1, 44, 1, 44));
        Check.due("load", index.load(), 0);
        Check.due("centres of the file", Looks.centres(index), "0,0,0,0");
        Looks.giveSamples(index, 9, 0, 0, 0);
        Check.due("train after load", index.train(1, 2, 1, 1), 0);
        Check.due("centres of three samples by the turn of the file", Looks.centres(index), "-5,0,0,0");
    }
}
