/** Promises 12 (effort), 13 (search), 14 (hit), 15 (far) and 16 (scanned). */
final class SearchTest {
    private static final int NONE = QuantisedLists.NONE;

    public static void main(String[] args) {
        promise12Edges();
        promise12RefusedChangesNothing();
        promise13OrderOfLists();
        promise13OrderOfEntries();
        promise13Refine();
        promise13CodesAtTheEntrysList();
        promise13Turned();
        promise13Reasons();
        promise13RefusedChangesNothing();
        promise14And15Edges();
        promise15ByTheRefineOfThatSearch();
        resultsStay();
        promise16Scanned();
        Check.end();
    }

    private static QuantisedLists twoLists() {
        QuantisedLists index = Looks.withSamples(0, 0, 0, 0, 10, 0, 0, 0);
        index.train(2, 2, 1, 0);
        index.add(5, 1, 0, 0, 0);
        index.add(2, 9, 0, 0, 0);
        index.add(9, 4, 0, 0, 0);
        index.add(1, 5, 0, 0, 0);
        return index;
    }

    /** One list and one word, so that all code distances are the same and ids alone order the entries. */
    private static QuantisedLists oneWord() {
        QuantisedLists index = Looks.withSamples(0, 0, 0, 0);
        index.train(1, 1, 1, 0);
        index.add(4, 0, 0, 0, 5);
        index.add(3, 0, 0, 0, 0);
        index.add(2, 5, 0, 0, 0);
        index.add(1, 10, 0, 0, 0);
        return index;
    }

    private static void found(QuantisedLists index, String want, int x, int y, int z, int w, int k) {
        int results = index.search(x, y, z, w, k);
        String call = "search(" + x + ", " + y + ", " + z + ", " + w + ", " + k + ")";
        Check.due(call, results, want.isEmpty() ? 0 : want.split(" ").length);
        Check.due("results of " + call, Looks.results(index), want);
    }

    private static void promise12Edges() {
        QuantisedLists index = new QuantisedLists();
        for (int probes = -1; probes <= 6; probes++) {
            for (int refine = -2; refine <= 5; refine++) {
                Check.due("effort(" + probes + ", " + refine + ")", index.effort(probes, refine),
                        probes >= 1 && probes <= 4 && refine >= 0 && refine <= 3);
            }
        }
        Check.due("effort of the least", index.effort(Integer.MIN_VALUE, 0), false);
        Check.due("effort of the greatest", index.effort(Integer.MAX_VALUE, 0), false);
        Check.due("refine of the least", index.effort(1, Integer.MIN_VALUE), false);
        Check.due("refine of the greatest", index.effort(1, Integer.MAX_VALUE), false);
    }

    private static void promise12RefusedChangesNothing() {
        QuantisedLists index = twoLists();
        Check.due("effort(2, 4)", index.effort(2, 4), false);
        found(index, "1:0 9:1 5:16", 5, 0, 0, 0, 8);
        Check.due("effort(2, 0)", index.effort(2, 0), true);
        Check.due("effort(0, 3)", index.effort(0, 3), false);
        Check.due("effort(5, 3)", index.effort(5, 3), false);
        found(index, "1:0 9:1 2:16 5:16", 5, 0, 0, 0, 8);
        QuantisedLists word = oneWord();
        word.effort(1, 3);
        Check.due("effort(1, -1)", word.effort(1, -1), false);
        Check.due("effort(0, 0)", word.effort(0, 0), false);
        found(word, "3:0", 0, 0, 0, 0, 1);
    }

    private static void promise13OrderOfLists() {
        QuantisedLists index = twoLists();
        found(index, "1:0 9:1 5:16", 5, 0, 0, 0, 8);
        found(index, "2:9", 6, 0, 0, 0, 8);
        found(index, "9:0 1:1 5:9", 4, 0, 0, 0, 8);
        index.effort(2, 0);
        found(index, "1:1 9:4 2:9 5:25", 6, 0, 0, 0, 8);
        index.effort(4, 0);
        found(index, "1:1 9:4 2:9 5:25", 6, 0, 0, 0, 8);
        QuantisedLists three = Looks.withSamples(0, 0, 0, 0, 10, 0, 0, 0, 4, 0, 0, 0);
        three.train(3, 2, 1, 0);
        Check.due("centres", Looks.centres(three), "0,0,0,0 10,0,0,0 4,0,0,0");
        three.add(0, 0, 0, 0, 0);
        three.add(1, 10, 0, 0, 0);
        three.add(2, 4, 0, 0, 0);
        found(three, "1:9", 7, 0, 0, 0, 8);
        three.effort(2, 0);
        found(three, "1:9 2:9", 7, 0, 0, 0, 8);
        found(three, "2:1 0:9", 3, 0, 0, 0, 8);
        three.effort(3, 0);
        found(three, "1:9 2:9 0:49", 7, 0, 0, 0, 8);
    }

    private static void promise13OrderOfEntries() {
        QuantisedLists index = twoLists();
        index.effort(2, 0);
        found(index, "1:0", 5, 0, 0, 0, 1);
        found(index, "1:0 9:1 2:16", 5, 0, 0, 0, 3);
        found(index, "1:0 9:1 2:16 5:16", 5, 0, 0, 0, 4);
        for (int id = 20; id < 30; id++) {
            index.add(id, 5, 0, 0, 0);
        }
        found(index, "1:0 20:0 21:0 22:0 23:0 24:0 25:0 26:0", 5, 0, 0, 0, 8);
        Check.due("scanned()", index.scanned(), 14);
    }

    private static void promise13Refine() {
        QuantisedLists index = oneWord();
        found(index, "1:0", 0, 0, 0, 0, 1);
        found(index, "1:0 2:0 3:0 4:0", 0, 0, 0, 0, 8);
        index.effort(1, 1);
        found(index, "1:100", 0, 0, 0, 0, 1);
        found(index, "2:25 1:100", 0, 0, 0, 0, 2);
        found(index, "3:0 2:25 4:25 1:100", 0, 0, 0, 0, 4);
        index.effort(1, 2);
        found(index, "2:25", 0, 0, 0, 0, 1);
        found(index, "3:0 2:25", 0, 0, 0, 0, 2);
        index.effort(1, 3);
        found(index, "3:0", 0, 0, 0, 0, 1);
        found(index, "3:0 2:25 4:25", 0, 0, 0, 0, 3);
        Check.due("scanned()", index.scanned(), 4);
    }

    private static void promise13CodesAtTheEntrysList() {
        QuantisedLists index = Looks.withSamples(0, 0, 0, 0, 10, 0, 0, 0, 0, 1, 0, 2);
        index.train(2, 0, 2, 0);
        Check.due("centres", Looks.centres(index), "0,0,0,0 10,0,0,0");
        Check.due("words", Looks.words(index), "0,0 0,1 / 0,0 0,2");
        index.effort(2, 0);
        index.add(1, 1, 0, 0, 0);
        index.add(2, 9, 3, 0, 1);
        index.add(3, 9, 3, 0, 3);
        // (2,0 5,7) less (0,0 0,0) is held against 0,0 / 0,0; less (10,0 0,0) against 0,1 / 0,0 and 0,1 / 0,2
        found(index, "1:78 3:115 2:139", 2, 0, 5, 7, 8);
        QuantisedLists scalar = Looks.withSamples(0, 0, 0, 0, 10, 0, 0, 0, 0, 1, 0, 2);
        scalar.train(2, 1, 2, 0);
        Check.due("words", Looks.words(scalar), "0 0 / 0 1 / 0 0 / 0 2");
        scalar.effort(2, 0);
        scalar.add(2, 9, 3, 0, 1);
        scalar.add(3, 9, 3, 0, 3);
        found(scalar, "3:115 2:139", 2, 0, 5, 7, 8);
    }

    private static void promise13Turned() {
        QuantisedLists index = new QuantisedLists();
        index.turn(4, 3, -2, -1);
        Looks.giveSamples(index, 0, 0, 0, 0, 0, 0, 0, 50);
        index.train(2, 1, 1, 0);
        Check.due("centres", Looks.centres(index), "0,0,0,0 50,0,0,0");
        index.add(1, 1, 2, 3, 4);
        index.add(2, 0, 0, 0, 49);
        found(index, "2:100", 0, 0, 0, 40, 8);
        index.effort(1, 1);
        found(index, "2:81", 0, 0, 0, 40, 8);
        found(index, "1:30", 0, 0, 0, 0, 8);
    }

    private static void promise13Reasons() {
        QuantisedLists index = Looks.withSamples(0, 0, 0, 0);
        Check.due("search when not trained", index.search(101, 0, 0, 0, 0), -1);
        index.train(1, 2, 1, 0);
        int[] wrong = {-101, 101, Integer.MIN_VALUE, Integer.MAX_VALUE};
        for (int v : wrong) {
            Check.due("search with x " + v, index.search(v, 0, 0, 0, 0), -2);
            Check.due("search with y " + v, index.search(0, v, 0, 0, 1), -2);
            Check.due("search with z " + v, index.search(0, 0, v, 0, 1), -2);
            Check.due("search with w " + v, index.search(0, 0, 0, v, 1), -2);
        }
        int[] wrongK = {0, -1, 9, Integer.MIN_VALUE, Integer.MAX_VALUE};
        for (int k : wrongK) {
            Check.due("search for " + k, index.search(0, 0, 0, 0, k), -3);
        }
        Check.due("search without entries", index.search(100, -100, 100, -100, 8), 0);
        index.add(1, 100, -100, 100, -100);
        found(index, "1:160000", -100, 100, -100, 100, 1);
    }

    private static void promise13RefusedChangesNothing() {
        QuantisedLists index = twoLists();
        found(index, "1:0 9:1 5:16", 5, 0, 0, 0, 8);
        Check.due("search of a bad point", index.search(101, 0, 0, 0, 1), -2);
        Check.due("search for none", index.search(10, 0, 0, 0, 0), -3);
        Check.due("search for 9", index.search(10, 0, 0, 0, 9), -3);
        Check.due("results", Looks.results(index), "1:0 9:1 5:16");
        Check.due("scanned()", index.scanned(), 3);
    }

    private static void promise14And15Edges() {
        QuantisedLists index = twoLists();
        index.effort(2, 0);
        index.search(5, 0, 0, 0, 3);
        Check.due("hit(0)", index.hit(0), 1);
        Check.due("hit(2)", index.hit(2), 2);
        Check.due("far(0)", index.far(0), 0);
        Check.due("far(2)", index.far(2), 16);
        int[] none = {-1, 3, 4, 8, 20, Integer.MIN_VALUE, Integer.MAX_VALUE};
        for (int r : none) {
            Check.due("hit(" + r + ")", index.hit(r), NONE);
            Check.due("far(" + r + ")", index.far(r), NONE);
        }
        index.search(5, 0, 0, 0, 1);
        Check.due("hit(1) after a search for 1", index.hit(1), NONE);
        Check.due("far(1) after a search for 1", index.far(1), NONE);
    }

    private static void promise15ByTheRefineOfThatSearch() {
        QuantisedLists index = oneWord();
        index.search(0, 0, 0, 0, 8);
        index.effort(1, 3);
        Check.due("results of a search before effort", Looks.results(index), "1:0 2:0 3:0 4:0");
        index.search(0, 0, 0, 0, 8);
        index.effort(1, 0);
        Check.due("results of a search with refine", Looks.results(index), "3:0 2:25 4:25 1:100");
    }

    private static void resultsStay() {
        QuantisedLists index = twoLists();
        index.save();
        index.search(5, 0, 0, 0, 8);
        String want = "1:0 9:1 5:16";
        index.remove(1);
        Check.due("results after remove", Looks.results(index), want);
        index.add(0, 5, 0, 0, 0);
        Check.due("results after add", Looks.results(index), want);
        index.remove(0);
        index.remove(2);
        index.remove(5);
        index.remove(9);
        Check.due("train", index.train(1, 1, 1, 0), 100);
        Check.due("results after train", Looks.results(index), want);
        Check.due("scanned after train", index.scanned(), 3);
        index.cut(18);
        index.load();
        index.effort(2, 0);
        Check.due("results after a refused load", Looks.results(index), want);
        found(index, "", 5, 0, 0, 0, 8);
        Check.due("scanned of no entries", index.scanned(), 0);
    }

    private static void promise16Scanned() {
        QuantisedLists index = twoLists();
        Check.due("scanned before the first search", index.scanned(), 0);
        index.search(5, 0, 0, 0, 1);
        Check.due("scanned with one list", index.scanned(), 3);
        index.search(10, 0, 0, 0, 1);
        Check.due("scanned with the other list", index.scanned(), 1);
        index.effort(2, 1);
        Check.due("scanned after effort", index.scanned(), 1);
        index.search(10, 0, 0, 0, 1);
        Check.due("scanned with both lists", index.scanned(), 4);
        index.remove(1);
        Check.due("scanned after remove", index.scanned(), 4);
        index.search(10, 0, 0, 0, 1);
        Check.due("scanned in the next search", index.scanned(), 3);
    }
}
