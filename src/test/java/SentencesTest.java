/**
 * The sentences of the document that name no edge, from its first line on; above each test is its sentence. Most of
 * them look at one small index, whose numbers are worked out in the comments.
 */
final class SentencesTest {
    /**
     * To two lists in one round: the centres are 0,0,0,0 and 43,0,0,9 at first; the first and third sample are members
     * of centre 0, whose mean is 0,1,4,0, and the others of centre 1, whose mean is 41,0,0,4. Left of the samples are
     * then 0,-1,-4,0 and -1,0,0,-4 and 1,1,4,0 and 2,0,0,5.
     */
    private static final String SAMPLES = "sample 0 0 0 0; sample 40 0 0 0; sample 1 2 8 0; sample 43 0 0 9; ";
    /**
     * Of part 0, -1,-1 is the mean of 0,-1 and -1,0, and 1,0 that of 1,1 and 2,0. Of part 1, 4,0 has itself alone for a
     * member, and -2,0 is the mean of the three others, as 0,-4 and 0,5 are as near to -4,0 as to 4,0.
     */
    private static final String PRODUCT = "train 2 0 2 1 = 57; ";
    private static final String CENTRES = "centres = 0,1,4,0 41,0,0,4; ";
    private static final String WORDS = "words = -1,-1 1,0 / -2,0 4,0; ";
    /** What is left of them is 1,1,5,0 and 0,-1,-4,0 and -1,0,0,5 and 2,1,-3,0. */
    private static final String ENTRIES = "add 7 42 1 5 4 = 1; add 3 0 0 0 0 = 0; add 5 40 0 0 9 = 1; "
            + "add 9 2 2 1 0 = 0; ";
    private static final String CODES = "codeOf 7 = 3; codeOf 3 = 0; codeOf 5 = 0; codeOf 9 = 1; ";
    private static final String FILE = "86 1 0 2 2 4 5 6 7 8 "
            + "1 44 1 45 1 48 1 44 1 85 1 44 1 44 1 48 "
            + "1 43 1 43 1 45 1 44 1 42 1 44 1 48 1 44 "
            + "0 3 100 100 100 100 0 5 140 100 100 109 0 7 142 101 105 104 0 9 102 102 101 100 check";
    /**
     * What is left of 40,1,2,3 is -1,1,2,-1 at centre 1 and 40,0,-2,3 at centre 0; what is left of 40,0,0,0 is
     * -1,0,0,-4 at centre 1.
     */
    private static final String SEARCHES = "effort 1 0; search 40 1 2 3 8 = 2; results = 7:10 5:21; scanned = 2; "
            + "effort 2 0; search 40 1 2 3 8 = 4; results = 7:10 5:21 9:1530 3:1691; scanned = 4; "
            + "effort 2 1; search 40 1 2 3 8 = 4; results = 7:14 5:41 9:1455 3:1614; scanned = 4; "
            + "effort 1 0; search 40 0 0 0 8 = 2; results = 5:21 7:36; "
            + "effort 1 1; search 40 0 0 0 8 = 2; results = 7:46 5:81; ";

    public static void main(String[] args) {
        theWholeOfIt();
        theWholeOfItTurned();
        readByAnotherObject();
        lessTheCentre();
        asManyWordsAsCodesSays();
        centresOfTheParts();
        coordinatesAsParts();
        wordsOfACode();
        fromTheLeastOn();
        sumOverTheParts();
        firstKOfThese();
        inThisOrder();
        inThisOrderForEachKind();
        constants();
        theTurnBecomes();
        thenTrained();
        numberOfResults();
        putInItsPlace();
        readsTheFile();
        Check.end();
    }

    /**
     * "It keeps them in lists by the nearest of a few centres, each as a short code of what is then left of it, and
     * finds the points nearest to another one by the distances of their codes, looking through some of the lists, with
     * the exact distances of the best ones if that is wished. It learns centres and codes from samples, and can be
     * written to a file of bytes and read from one."
     */
    private static void theWholeOfIt() {
        Run.of("the whole of it", SAMPLES, PRODUCT, CENTRES, WORDS, ENTRIES, CODES, SEARCHES,
                "save = 67; bytes = " + FILE, "remove 7; remove 3; remove 5; remove 9; train 1 2 1 0 = 0; load = 0",
                CENTRES, WORDS, CODES, SEARCHES);
    }

    /**
     * "wherever below a sample, the point of an entry or the point of a search is spoken of, it is turned by the turn
     * of that time": 2 -1 4 -3 turns a,b,c,d to b,-a,d,-c, so that these points turned are those of theWholeOfIt.
     */
    private static void theWholeOfItTurned() {
        Run.of("turned", "turn 2 -1 4 -3; sample 0 0 0 0; sample 0 40 0 0; sample -2 1 0 8; sample 0 43 -9 0",
                PRODUCT, CENTRES, WORDS,
                "add 7 -1 42 -4 5 = 1; add 3 0 0 0 0 = 0; add 5 0 40 -9 0 = 1; add 9 -2 2 0 1 = 0", CODES,
                "search -1 40 -3 2 8 = 2; results = 7:10 5:21; effort 2 0; search -1 40 -3 2 8 = 4",
                "results = 7:10 5:21 9:1530 3:1691; effort 2 1; search -1 40 -3 2 8 = 4",
                "results = 7:14 5:41 9:1455 3:1614; save = 67",
                "bytes = " + FILE.replace(" 5 6 7 8 ", " 6 3 8 1 ").replace("140 100 100 109", "100 140 91 100")
                        .replace("142 101 105 104", "99 142 96 105").replace("102 102 101 100", "98 102 100 101"));
    }

    /** "can be written to a file of bytes and read from one": by an object that never had a sample */
    private static void readByAnotherObject() {
        Run.of("read by another", "file " + FILE + "; load = 0", CENTRES, WORDS, CODES, SEARCHES,
                "train 1 2 1 0 = -1; cut 0; save = 67; bytes = " + FILE);
    }

    /** "What is LEFT of a point at a centre is the point less the centre, coordinate by coordinate" */
    private static void lessTheCentre() {
        // left of the search's point is 11,-10,21,-3
        Run.of("less the centre", "sample 1 2 3 4; sample 11 -8 23 0; train 1 1 2 0 = 0",
                "words = 0 10 / -10 0 / 0 20 / -4 0", "add 1 11 2 23 4; codeOf 1 = 15; add 2 1 -8 3 0; codeOf 2 = 0",
                "search 12 -8 24 1 2 = 2; results = 1:111 2:563");
    }

    /** "By its KIND the index has PARTS, and for each part as many WORDS, numbered from 0, as codes says" */
    private static void asManyWordsAsCodesSays() {
        for (int codes = 1; codes <= 4; codes++) {
            String pairs = "0,0 ".repeat(codes).strip();
            String values = "0 ".repeat(codes).strip();
            Run.of("words of PRODUCT", "sample 1 2 3 4; train 1 0 " + codes + " 0; words = " + pairs + " / " + pairs);
            Run.of("words of SCALAR", "sample 1 2 3 4; train 1 1 " + codes + " 0",
                    "words = " + values + " / " + values + " / " + values + " / " + values);
            Run.of("words of FLAT", "sample 1 2 3 4; train 1 2 " + codes + " 0; words =");
        }
    }

    /**
     * "the words of a part are the centres to which that part of what is left of all samples (at the centres of the
     * lists after all rounds) is clustered in the same number of rounds"
     */
    private static void centresOfTheParts() {
        Run.of("one round", SAMPLES, PRODUCT, CENTRES, WORDS);
        // left are 0,0,0,0 and -3,0,0,-9 and 1,2,8,0 and 0,0,0,0
        Run.of("no round", SAMPLES, "train 2 0 2 0 = 69; centres = 0,0,0,0 43,0,0,9; words = 0,0 -3,0 / 0,0 0,-9");
        Run.of("three words", SAMPLES, "train 2 0 3 0 = 0; words = 0,0 -3,0 1,2 / 0,0 0,-9 8,0");
        Run.of("one list", SAMPLES, "train 1 0 2 0 = 78; words = 0,0 43,0 / 0,0 0,9");
    }

    /** "Kind 1, SCALAR: part k is coordinate k, for k from 0 to 3" */
    private static void coordinatesAsParts() {
        Run.of("scalar", SAMPLES, "train 2 1 2 1 = 68", CENTRES, "words = -1 2 / -1 1 / -4 4 / -4 5", ENTRIES,
                "codeOf 7 = 7; codeOf 3 = 0; codeOf 5 = 8; codeOf 9 = 3");
    }

    /**
     * "a point, the list of its nearest centre, and a CODE: for each part the number of the word nearest to that part
     * of what is left of the point"
     */
    private static void wordsOfACode() {
        Run.of("codes", SAMPLES, PRODUCT, ENTRIES, CODES, "listOf 7 = 1; listOf 3 = 0; listOf 5 = 1; listOf 9 = 0",
                "entries 0 = 2; entries 1 = 2");
    }

    /** "SEARCH for a point q (all orders are from the least on)": lists, code distances, distances and ids */
    private static void fromTheLeastOn() {
        Run.of("orders", SAMPLES, PRODUCT, ENTRIES, SEARCHES);
        Run.of("ids", SAMPLES, PRODUCT, "add 9 1 1 1 1; add 2 1 1 1 1; add 5 1 1 1 1; search 1 1 1 0 8 = 3",
                "hit 0 = 2; hit 1 = 5; hit 2 = 9; effort 1 1; search 1 1 1 0 8 = 3; results = 2:1 5:1 9:1");
    }

    /** "each entry in them has a CODE DISTANCE, which is the sum, over the parts" */
    private static void sumOverTheParts() {
        // 5 + 5 for entry 7 and 4 + 17 for entry 5; by coordinates 9 + 0 + 4 + 9 and 0 + 4 + 36 + 36
        Run.of("two parts", SAMPLES, PRODUCT, ENTRIES, "search 40 1 2 3 8 = 2; results = 7:10 5:21");
        Run.of("four parts", SAMPLES, "train 2 1 2 1 = 68", ENTRIES, "search 40 1 2 3 8 = 2; results = 7:22 5:76");
        Run.of("no parts", SAMPLES, "train 2 2 2 1 = 0", ENTRIES, "search 40 1 2 3 8 = 2; results = 7:14 5:41");
    }

    /**
     * "the first k * f in that order are taken, put in the order of the distance between q and their points, equal ones
     * by id, and the results are the first k of these"
     */
    private static void firstKOfThese() {
        Run.of("one of one", SAMPLES, PRODUCT, ENTRIES, "effort 1 1; search 40 0 0 0 1 = 1; results = 5:81");
        Run.of("one of two", SAMPLES, PRODUCT, ENTRIES, "effort 1 2; search 40 0 0 0 1 = 1; results = 7:46");
        Run.of("two of four", SAMPLES, PRODUCT, ENTRIES, "effort 2 2; search 40 0 0 0 2 = 2; results = 7:46 5:81");
    }

    /**
     * "A WELL-FORMED file holds, in this order: 86; 1; the kind; the number of lists 1 .. 4; codes 1 .. 4; the number n
     * of entries 0 .. 20; t0 + 4, t1 + 4, t2 + 4, t3 + 4; the coordinates of the centres, list by list; the coordinates
     * of the words, part by part, in a part word by word; the entries by growing id, each with its id and the four
     * coordinates of its point as it was given; the CHECK."
     */
    private static void inThisOrder() {
        Run.of("the file", SAMPLES, PRODUCT, ENTRIES, "save = 67; bytes = " + FILE);
    }

    private static void inThisOrderForEachKind() {
        String centres = "1 44 1 45 1 48 1 44 1 85 1 44 1 44 1 48 ";
        String words = "1 43 1 46 1 43 1 45 1 40 1 48 1 40 1 49 ";
        String entry = "3 231 0 200 1 199 ";
        Run.of("SCALAR", SAMPLES, "train 2 1 2 1; add 999 -100 100 -99 99; save = 49",
                "bytes = 86 1 1 2 2 1 5 6 7 8 " + centres + words + entry + "check");
        Run.of("FLAT", SAMPLES, "train 2 2 3 1; add 999 -100 100 -99 99; save = 33",
                "bytes = 86 1 2 2 3 1 5 6 7 8 " + centres + entry + "check");
    }

    /** "The constants: `NONE = -1`: Nothing there. `ABSENT = -1000`: No such coordinate." */
    private static void constants() {
        Check.due("NONE", QuantisedLists.NONE, -1);
        Check.due("ABSENT", QuantisedLists.ABSENT, -1000);
        Run.of("nothing there", "listOf 1 = -1; codeOf 1 = -1; entries 0 = -1; hit 0 = -1; far 0 = -1; save = -1; "
                + "byteAt 0 = -1");
        Run.of("no such coordinate", "centre 0 0 = -1000; word 0 0 0 = -1000");
    }

    /** "The turn becomes t0, t1, t2, t3: true." */
    private static void theTurnBecomes() {
        Run.of("a turn", "sample 10 20 30 40; turn 3 1 4 2 = true; train 1 2 1 0; centres = 30,10,40,20");
        Run.of("the same turn twice", "sample 10 20 30 40; turn -3 1 4 2 = true; turn -3 1 4 2 = true; train 1 2 1 0",
                "centres = -30,10,40,20; save; byteAt 6 = 1; byteAt 7 = 5; byteAt 8 = 8; byteAt 9 = 6");
    }

    /** "Trains the index, which is then trained" */
    private static void thenTrained() {
        for (int kind = 0; kind <= 2; kind++) {
            Run.of("trained", "sample 1 2 3 4; centre 0 0 = -1000; entries 0 = -1; add 1 0 0 0 0 = -1; "
                    + "search 0 0 0 0 1 = -1; save = -1; turn 1 2 3 4 = true",
                    "train 1 " + kind + " 1 0 = 0; turn 1 2 3 4 = false; centre 0 0 = 1; entries 0 = 0; "
                            + "add 1 0 0 0 0 = 0; search 0 0 0 0 1 = 1; save = " + (kind == 2 ? 25 : 33));
        }
    }

    /** "Searches for a point and answers the number of results." */
    private static void numberOfResults() {
        for (int refine = 0; refine <= 3; refine++) {
            Run run = new Run("number of results").go("sample 0 0 0 0; train 1 0 1 0; effort 1 " + refine);
            for (int n = 0; n <= 9; n++) {
                for (int k = 1; k <= 8; k++) {
                    int due = Math.min(k, n);
                    run.go("search 0 0 0 0 " + k + " = " + due + "; hit " + due + " = -1; far " + due + " = -1");
                }
                run.go("add " + n + " 0 0 0 " + n + " = 0");
            }
        }
    }

    /** "The distance by which result r of the latest search was put in its place" */
    private static void putInItsPlace() {
        Run.of("in its place", SAMPLES, PRODUCT, ENTRIES, "effort 2 0; search 40 0 0 0 8 = 4; far 0 = 21; far 1 = 36",
                "effort 2 3; far 0 = 21; far 1 = 36; search 40 0 0 0 8 = 4; far 0 = 46; far 1 = 81; effort 1 0",
                "far 0 = 46; far 1 = 81; search 42 0 4 4 8 = 2; far 0 = 0; far 1 = 41; far 2 = -1");
    }

    /**
     * "Reads the file." and "Otherwise the load is refused, with the number of the first of these that holds": as it is
     * at that time, whatever was saved before
     */
    private static void readsTheFile() {
        Run.of("as it is", SAMPLES, PRODUCT, ENTRIES, "save = 67; remove 9; alter 43 4; load = 7; listOf 9 = -1",
                "alter 66 " + (checkOf(FILE) + 44) % 251 + "; load = 0; listOf 3 = -1; listOf 4 = 0; listOf 9 = 0",
                "alter 43 5; alter 66 " + (checkOf(FILE) + 88) % 251 + "; load = 9; listOf 4 = 0; listOf 5 = 1",
                "cut 66; load = 6; cut 10; load = 1; alter 10 1; alter 0 0; load = 2; listOf 4 = 0");
    }

    private static int checkOf(String bytes) {
        long sum = 0;
        int place = 0;
        for (String b : bytes.replace(" check", "").split(" ")) {
            place++;
            sum += (long) place * Integer.parseInt(b);
        }
        return (int) (sum % 251);
    }
}
