/** Promises 7 (add), 8 (remove), 9 (listOf), 10 (codeOf) and 11 (entries). */
final class EntriesTest {
    private static final int NONE = QuantisedLists.NONE;
    private static final int[] FOUR = {0, 0, 0, 0, 4, 0, 0, 0, 0, 0, 6, 0, 4, 0, 6, 1};

    public static void main(String[] args) {
        promise7Reasons();
        promise7Edges();
        promise7AtMost20();
        promise7NearestCentre();
        promise8Remove();
        promise9ListOf();
        promise10Product();
        promise10Scalar();
        promise10Flat();
        promise10AtTheNearestCentre();
        promise11Entries();
        Check.end();
    }

    private static QuantisedLists twoLists() {
        QuantisedLists index = Looks.withSamples(0, 0, 0, 0, 10, 0, 0, 0);
        index.train(2, 2, 1, 0);
        return index;
    }

    private static void promise7Reasons() {
        QuantisedLists index = Looks.withSamples(0, 0, 0, 0);
        Check.due("add when not trained", index.add(-1, 101, 0, 0, 0), -1);
        index.train(1, 2, 1, 0);
        Check.due("add with a wrong id and a bad point", index.add(-1, 101, 0, 0, 0), -2);
        Check.due("add", index.add(5, 0, 0, 0, 0), 0);
        Check.due("add of a bad point with an id that is there", index.add(5, 101, 0, 0, 0), -3);
        Check.due("add of an id that is there", index.add(5, 1, 0, 0, 0), -4);
        for (int id = 100; id < 119; id++) {
            Check.due("add " + id, index.add(id, 1, 1, 1, 1), 0);
        }
        Check.due("add of an id that is there to 20", index.add(5, 1, 0, 0, 0), -4);
        Check.due("add of a bad point to 20", index.add(6, 0, 0, 0, -101), -3);
        Check.due("add to 20", index.add(6, 1, 0, 0, 0), -5);
        Check.due("entries after what was refused", index.entries(0), 20);
        Check.due("search", index.search(0, 0, 0, 0, 1), 1);
        Check.due("the point of 5 after what was refused", Looks.results(index), "5:0");
    }

    private static void promise7Edges() {
        QuantisedLists index = twoLists();
        int[] wrongIds = {-1, 1000, Integer.MIN_VALUE, Integer.MAX_VALUE};
        for (int id : wrongIds) {
            Check.due("add(" + id + ", ..)", index.add(id, 0, 0, 0, 0), -2);
        }
        int[] wrong = {-101, 101, Integer.MIN_VALUE, Integer.MAX_VALUE};
        for (int v : wrong) {
            Check.due("add with x " + v, index.add(1, v, 0, 0, 0), -3);
            Check.due("add with y " + v, index.add(1, 0, v, 0, 0), -3);
            Check.due("add with z " + v, index.add(1, 0, 0, v, 0), -3);
            Check.due("add with w " + v, index.add(1, 0, 0, 0, v), -3);
        }
        Check.due("listOf what was refused", index.listOf(1), NONE);
        Check.due("add(0, ..)", index.add(0, -100, -100, -100, -100), 0);
        Check.due("add(999, ..)", index.add(999, 100, 100, 100, 100), 1);
    }

    private static void promise7AtMost20() {
        QuantisedLists index = twoLists();
        for (int i = 0; i < 20; i++) {
            Check.due("add " + i, index.add(990 - 40 * i, i, 0, 0, 0), i <= 5 ? 0 : 1);
        }
        Check.due("add 20", index.add(1, 0, 0, 0, 0), -5);
        Check.due("listOf(1)", index.listOf(1), NONE);
        Check.due("remove(510)", index.remove(510), true);
        Check.due("add after remove", index.add(1, 0, 0, 0, 0), 0);
        Check.due("add 21", index.add(2, 0, 0, 0, 0), -5);
        for (int i = 0; i < 20; i++) {
            Check.due("listOf entry " + i, index.listOf(990 - 40 * i), i == 12 ? NONE : i <= 5 ? 0 : 1);
        }
    }

    private static void promise7NearestCentre() {
        QuantisedLists index = twoLists();
        Check.due("add at 4", index.add(1, 4, 0, 0, 0), 0);
        Check.due("add in the middle", index.add(2, 5, 77, 0, 0), 0);
        Check.due("add at 6", index.add(3, 6, 0, 0, 0), 1);
        QuantisedLists turned = new QuantisedLists();
        turned.turn(-2, 1, 3, 4);
        Looks.giveSamples(turned, 0, 0, 0, 0, 0, -10, 0, 0);
        turned.train(2, 2, 1, 0);
        Check.due("centres", Looks.centres(turned), "0,0,0,0 10,0,0,0");
        Check.due("add at 6 after a turn", turned.add(1, 0, -6, 0, 0), 1);
        Check.due("add at -6 after a turn", turned.add(2, 0, 6, 0, 0), 0);
    }

    private static void promise8Remove() {
        QuantisedLists index = twoLists();
        Check.due("remove(5) of none", index.remove(5), false);
        index.add(5, 0, 0, 0, 0);
        index.add(3, 9, 0, 0, 0);
        index.add(7, 1, 0, 0, 0);
        Check.due("remove(4)", index.remove(4), false);
        Check.due("remove(-1)", index.remove(-1), false);
        Check.due("remove(1000)", index.remove(1000), false);
        Check.due("remove(5)", index.remove(5), true);
        Check.due("remove(5) again", index.remove(5), false);
        Check.due("listOf(5)", index.listOf(5), NONE);
        Check.due("codeOf(5)", index.codeOf(5), NONE);
        Check.due("listOf(3)", index.listOf(3), 1);
        Check.due("listOf(7)", index.listOf(7), 0);
        Check.due("entries(0)", index.entries(0), 1);
        Check.due("search", index.search(0, 0, 0, 0, 8), 1);
        Check.due("results", Looks.results(index), "7:1");
        Check.due("add(5, ..) again", index.add(5, 10, 0, 0, 0), 1);
        Check.due("listOf(5)", index.listOf(5), 1);
        index.remove(3);
        index.remove(5);
        index.remove(7);
        Check.due("train without entries", index.train(1, 2, 1, 0), 0);
    }

    private static void promise9ListOf() {
        QuantisedLists index = twoLists();
        index.add(999, 8, 0, 0, 0);
        index.add(0, 1, 0, 0, 0);
        Check.due("listOf(999)", index.listOf(999), 1);
        Check.due("listOf(0)", index.listOf(0), 0);
        int[] none = {1, 998, -1, 1000, Integer.MIN_VALUE, Integer.MAX_VALUE};
        for (int id : none) {
            Check.due("listOf(" + id + ")", index.listOf(id), NONE);
            Check.due("codeOf(" + id + ")", index.codeOf(id), NONE);
        }
    }

    private static void promise10Product() {
        QuantisedLists index = Looks.withSamples(FOUR);
        index.train(1, 0, 2, 0);
        Check.due("words", Looks.words(index), "0,0 4,0 / 0,0 6,1");
        index.add(1, 3, 0, 5, 0);
        index.add(2, 2, 0, 0, 0);
        index.add(3, 0, 0, 4, 0);
        index.add(4, 3, 0, 0, 0);
        Check.due("codeOf(1)", index.codeOf(1), 3);
        Check.due("codeOf(2), as near to either word", index.codeOf(2), 0);
        Check.due("codeOf(3)", index.codeOf(3), 2);
        Check.due("codeOf(4)", index.codeOf(4), 1);
    }

    private static void promise10Scalar() {
        QuantisedLists index = Looks.withSamples(FOUR);
        index.train(1, 1, 4, 0);
        Check.due("words", Looks.words(index), "0 1 2 4 / 0 0 0 0 / 0 2 4 6 / 0 0 0 1");
        index.add(1, 3, 9, 5, 1);
        index.add(2, 100, 100, 100, 100);
        index.add(3, -100, -100, -100, -100);
        Check.due("codeOf(1)", index.codeOf(1), 2 + 2 * 16 + 3 * 64);
        Check.due("codeOf(2)", index.codeOf(2), 3 + 3 * 16 + 3 * 64);
        Check.due("codeOf(3)", index.codeOf(3), 0);
    }

    private static void promise10Flat() {
        QuantisedLists index = Looks.withSamples(FOUR);
        index.train(1, 2, 4, 0);
        index.add(1, 3, 9, 5, 1);
        Check.due("codeOf(1)", index.codeOf(1), 0);
    }

    private static void promise10AtTheNearestCentre() {
        // two lists at 0 and 51; left of the samples are 0, 1, 0 and 4
        QuantisedLists index = Looks.withSamples(0, 0, 0, 0, 1, 0, 0, 0, 51, 0, 0, 0, 47, 0, 0, 0);
        index.train(2, 1, 2, 0);
        Check.due("centres", Looks.centres(index), "0,0,0,0 51,0,0,0");
        Check.due("words", Looks.words(index), "-4 1 / 0 0 / 0 0 / 0 0");
        index.add(1, 48, 0, 0, 0);
        index.add(2, 52, 0, 0, 0);
        Check.due("codeOf(1)", index.codeOf(1), 0);
        Check.due("codeOf(2)", index.codeOf(2), 1);
    }

    private static void promise11Entries() {
        QuantisedLists index = Looks.withSamples(0, 0, 0, 0, 10, 0, 0, 0, 20, 0, 0, 0);
        Check.due("entries when not trained", index.entries(0), NONE);
        index.train(3, 2, 1, 0);
        Check.due("centres", Looks.centres(index), "0,0,0,0 20,0,0,0 10,0,0,0");
        index.add(1, 1, 0, 0, 0);
        index.add(2, 2, 0, 0, 0);
        index.add(3, 19, 0, 0, 0);
        Check.due("entries(0)", index.entries(0), 2);
        Check.due("entries(1)", index.entries(1), 1);
        Check.due("entries(2)", index.entries(2), 0);
        int[] none = {-1, 3, 4, Integer.MIN_VALUE, Integer.MAX_VALUE};
        for (int list : none) {
            Check.due("entries(" + list + ")", index.entries(list), NONE);
        }
    }
}
