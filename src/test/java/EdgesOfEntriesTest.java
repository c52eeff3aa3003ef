/**
 * The edges that the document names for a new object, entries and promises 1, 2 and 7 to 11; above each test is its
 * sentence.
 */
final class EdgesOfEntriesTest {
    private static final String[] FAR = {"least", "greatest", "-2147483647", "65536", "-65536", "1256", "-256"};
    private static final String FLAT = "sample 0 0 0 0; sample 10 0 0 0; train 2 2 1 0";
    private static final String FILE = "file 86 1 2 2 1 2 5 6 7 8 1 44 1 44 1 44 1 44 1 54 1 44 1 44 1 44 "
            + "0 0 100 100 100 100 3 231 110 100 100 100 check";

    public static void main(String[] args) {
        newObject();
        newObjectTakesAll();
        allCallsOfAnObject();
        turnOfATrainedIndex();
        turnOfALoadedIndex();
        atMost20();
        atMost20OfAFile();
        idsInRange();
        noTwoTheSame();
        answersItsList();
        notTrained();
        removed();
        removedAtEachPlace();
        notThereToRemove();
        listsOfEntries();
        codesOfEntries();
        codesOfEachKind();
        powersOfCodes();
        countsOfLists();
        countsOfNoList();
        Check.end();
    }

    /** "No samples, no entries, not trained, an empty file, no results." */
    private static void newObject() {
        Run.of("no samples", "train 1 0 1 0 = -1");
        Run.of("no entries", "remove 0 = false; remove 1 = false; listOf 0 = -1; codeOf 0 = -1; listOf 999 = -1");
        Run.of("not trained", "add 1 0 0 0 0 = -1; search 0 0 0 0 1 = -1; centre 0 0 = -1000; word 0 0 0 = -1000",
                "entries 0 = -1; save = -1; turn 1 2 3 4 = true");
        Run.of("an empty file", "byteAt 0 = -1; cut 1 = false; alter 1 0 = false; load = 1; cut 0 = true; "
                + "alter 0 0 = true");
        Run.of("no results", "hit 0 = -1; far 0 = -1; scanned = 0");
    }

    /** "No samples, no entries": there is room for all of them. */
    private static void newObjectTakesAll() {
        Run run = new Run("all of them");
        for (int i = 0; i < 24; i++) {
            run.go("sample 0 0 0 0 = true");
        }
        run.go("sample 0 0 0 0 = false; train 1 2 1 0 = 0; entries 0 = 0; search 0 0 0 0 8 = 0");
        for (int i = 0; i < 20; i++) {
            run.go("add " + i + " 0 0 0 0 = 0");
        }
        run.go("add 20 0 0 0 0 = -5; entries 0 = 20");
    }

    /** "An object is used for at most 512 calls after it has been made" */
    private static void allCallsOfAnObject() {
        Run run = new Run("512 calls").go("sample 1 2 3 4; train 4 1 4 8; effort 4 3");
        while (run.calls() < 508) {
            int id = run.calls() % 1000;
            run.go("add " + id + " 1 2 3 4 = 0; search 1 2 3 5 8 = 1; remove " + id + " = true; save = 75; load = 0");
        }
        run.go("add 7 1 2 3 4 = 0; search 1 2 3 5 8 = 1; hit 0 = 7; far 0 = 1");
        Check.due("calls of the run", run.calls(), 512);
    }

    /** "False when these are no turn, or the index is trained.": by a training */
    private static void turnOfATrainedIndex() {
        Run.of("trained", "turn 2 1 4 3 = true; sample 1 2 3 4; turn 4 3 2 1 = true; train 5 2 1 0 = -3",
                "turn 3 4 1 2 = true; train 1 2 1 0 = 0; turn 4 3 2 1 = false; turn 3 4 1 2 = false; "
                        + "turn 1 2 3 4 = false",
                "turn 1 1 3 4 = false; centres = 3,4,1,2; train 1 2 1 0 = 0; centres = 3,4,1,2");
    }

    /** "False when these are no turn, or the index is trained.": by a load */
    private static void turnOfALoadedIndex() {
        Run.of("loaded", "file 86 1 2 1 1 0 3 6 7 8 1 44 1 44 1 44 1 44 check; turn 4 3 2 1 = true; load = 0",
                "turn 4 3 2 1 = false; turn -1 2 3 4 = false; sample 1 2 3 4; train 1 2 1 0; centres = -1,2,3,4");
        Run.of("load that is refused", "file 86 1 2 1 1 0 3 6 7 8 1 44 1 44 1 44 1 44 check; alter 0 85; load = 2",
                "turn 4 3 2 1 = true; sample 1 2 3 4; train 1 2 1 0; centres = 4,3,2,1");
    }

    /** "ENTRIES, at most 20" and "-5 when there are 20 entries" */
    private static void atMost20() {
        Run run = new Run("20 entries").go(FLAT);
        for (int i = 0; i < 20; i++) {
            run.go("add " + (950 - 50 * i) + " " + i + " 0 0 0 = " + (i <= 5 ? 0 : 1));
        }
        run.go("entries 0 = 6; entries 1 = 14; add 1 0 0 0 0 = -5; add 999 0 0 0 0 = -5; listOf 1 = -1; entries 0 = 6");
        run.go("remove 950 = true; add 1 10 0 0 0 = 1; add 2 0 0 0 0 = -5; remove 0 = true; add 2 0 0 0 0 = 0");
        run.go("remove 500 = true; add 999 0 0 0 0 = 0; add 500 0 0 0 0 = -5; entries 0 = 7; entries 1 = 13");
    }

    private static void atMost20OfAFile() {
        StringBuilder file = new StringBuilder("file 86 1 2 1 1 20 5 6 7 8 " + "1 44 ".repeat(4));
        for (int id = 0; id < 20; id++) {
            file.append("0 ").append(id).append(" 100 100 100 100 ");
        }
        Run.of("20 entries of a file", file + "check; load = 0; entries 0 = 20; add 20 0 0 0 0 = -5; "
                + "add 19 0 0 0 0 = -4",
                "remove 19; add 20 0 0 0 0 = 0; add 19 0 0 0 0 = -5");
    }

    /** "have an ID 0 .. 999" and "-2 when id is not 0 .. 999" */
    private static void idsInRange() {
        Run run = new Run("ids").go(FLAT).go("add 0 0 0 0 0 = 0; add 999 10 0 0 0 = 1; add 255 0 0 0 0 = 0; "
                + "add 256 10 0 0 0 = 1");
        run.go("add 1 0 0 0 0 = 0; add 998 10 0 0 0 = 1; add -1 0 0 0 0 = -2; add 1000 0 0 0 0 = -2; "
                + "add 1001 0 0 0 0 = -2");
        for (String id : FAR) {
            run.go("add " + id + " 0 0 0 0 = -2; listOf " + id + " = -1");
        }
        run.go("entries 0 = 3; entries 1 = 3; listOf 0 = 0; listOf 999 = 1; listOf 255 = 0; listOf 256 = 1");
    }

    /** "(no two the same)" and "-4 when there is an entry with that id" */
    private static void noTwoTheSame() {
        Run.of("an id twice", FLAT, "add 5 0 0 0 0 = 0; add 5 10 0 0 0 = -4; add 5 0 0 0 0 = -4; listOf 5 = 0; "
                + "entries 0 = 1",
                "entries 1 = 0; remove 5; add 5 10 0 0 0 = 1; listOf 5 = 1; add 5 0 0 0 0 = -4; add 261 0 0 0 0 = 0");
        Run.of("the least and the greatest id twice", FLAT, "add 0 0 0 0 0 = 0; add 999 0 0 0 0 = 0",
                "add 0 1 0 0 0 = -4; add 999 1 0 0 0 = -4; entries 0 = 2");
        Run.of("an id of a file", FILE, "load = 0; add 0 0 0 0 0 = -4; add 999 0 0 0 0 = -4; add 998 0 0 0 0 = 0");
    }

    /** "Adds an entry and answers the number of its list." */
    private static void answersItsList() {
        Run.of("four lists", Run.line(0, 30, 10, 20), "train 4 2 1 0; centres = 0,0,0,0 30,0,0,0 10,0,0,0 20,0,0,0",
                "add 1 -100 0 0 0 = 0; add 2 5 0 0 0 = 0; add 3 6 0 0 0 = 2; add 4 15 0 0 0 = 2; add 5 16 0 0 0 = 3",
                "add 6 25 0 0 0 = 1; add 7 24 0 0 0 = 3; add 8 100 0 0 0 = 1");
    }

    /** "-1 when not trained" */
    private static void notTrained() {
        Run.of("not trained", "add 1 0 0 0 0 = -1; sample 0 0 0 0; add 1 0 0 0 0 = -1; train 0 0 0 0 = -3; "
                + "add 1 0 0 0 0 = -1",
                "train 1 2 1 0 = 0; add 1 0 0 0 0 = 0");
    }

    /** "Takes an entry away: true" */
    private static void removed() {
        Run.of("removed", FLAT, "add 5 0 0 0 0; remove 5 = true; remove 5 = false; listOf 5 = -1; codeOf 5 = -1",
                "entries 0 = 0; search 0 0 0 0 8 = 0; scanned = 0; save = 27; byteAt 5 = 0; train 1 2 1 0 = 0");
        Run.of("removed after a load", FILE, "load; remove 999 = true; remove 999 = false; remove 0 = true",
                "entries 0 = 0; entries 1 = 0");
    }

    private static void removedAtEachPlace() {
        for (int gone = 1; gone <= 4; gone++) {
            Run run = new Run("entry " + gone + " removed").go(FLAT);
            run.go("add 3 3 0 0 0; add 1 1 0 0 0; add 4 8 0 0 0; add 2 9 0 0 0; remove " + gone + " = true");
            for (int id = 1; id <= 4; id++) {
                run.go("listOf " + id + " = " + (id == gone ? -1 : id == 1 || id == 3 ? 0 : 1));
            }
            run.go("entries 0 = " + (gone % 2 == 0 ? 2 : 1) + "; add " + gone + " 0 0 0 0 = 0; "
                    + "remove " + gone + " = true");
        }
    }

    /** "false when there is none with that id": remove */
    private static void notThereToRemove() {
        Run run = new Run("none with that id").go("remove 0 = false").go(FLAT).go("remove 0 = false; add 5 0 0 0 0; "
                + "add 999 0 0 0 0");
        run.go("remove 4 = false; remove 6 = false; remove 0 = false; remove -1 = false; remove 998 = false; "
                + "remove 1000 = false");
        for (String id : FAR) {
            run.go("remove " + id + " = false");
        }
        run.go("entries 0 = 2");
    }

    /** "The list of an entry; NONE when there is none with that id." */
    private static void listsOfEntries() {
        Run run = new Run("lists").go("listOf 0 = -1; listOf 5 = -1").go(FLAT).go("listOf 0 = -1; add 0 0 0 0 0; "
                + "add 999 10 0 0 0");
        run.go("listOf 0 = 0; listOf 999 = 1; listOf 1 = -1; listOf 998 = -1; listOf -1 = -1; listOf 1000 = -1");
        for (String id : FAR) {
            run.go("listOf " + id + " = -1");
        }
        run.go("remove 0; listOf 0 = -1; listOf 999 = 1");
    }

    /** "NONE when there is no entry with that id": codeOf */
    private static void codesOfEntries() {
        Run run = new Run("codes").go("codeOf 0 = -1; sample 0 0 0 0; sample 1 0 0 0; train 1 1 2 0; codeOf 0 = -1");
        run.go("add 0 1 0 0 0; add 999 0 0 0 0; codeOf 0 = 1; codeOf 999 = 0; codeOf 1 = -1; codeOf 998 = -1");
        run.go("codeOf -1 = -1; codeOf 1000 = -1");
        for (String id : FAR) {
            run.go("codeOf " + id + " = -1");
        }
        run.go("remove 0; codeOf 0 = -1; codeOf 999 = 0");
    }

    /**
     * "The code of an entry as one number: the sum, over the parts p, of the number of its word times codes to the
     * power p (0 for FLAT)"
     */
    private static void codesOfEachKind() {
        Run.of("product with 4 codes", "sample 0 0 0 0; sample 9 0 9 0; sample 0 9 0 9; sample 9 9 9 9; "
                + "train 1 0 4 0 = 0",
                "words = 0,0 9,9 9,0 0,9 / 0,0 9,9 9,0 0,9",
                "add 0 0 0 0 0; add 1 9 9 0 0; add 2 0 0 9 9; add 3 0 9 0 9; add 4 9 0 0 9",
                "codeOf 0 = 0; codeOf 1 = 1; codeOf 2 = 4; codeOf 3 = 15; codeOf 4 = 14");
        Run.of("scalar with 4 codes", "sample 0 0 0 0; sample 9 9 9 9; train 1 1 4 0 = 0",
                "words = 0 3 6 9 / 0 3 6 9 / 0 3 6 9 / 0 3 6 9", "add 0 -100 -100 -100 -100; add 1 100 100 100 100",
                "add 2 0 3 6 9; add 3 3 0 0 0; add 4 0 3 0 0; add 5 0 0 3 0; add 6 0 0 0 3",
                "codeOf 0 = 0; codeOf 1 = 255; codeOf 2 = 228; codeOf 3 = 1; codeOf 4 = 4; codeOf 5 = 16; "
                        + "codeOf 6 = 64");
        Run.of("flat with 4 codes", "sample 0 0 0 0; sample 9 9 9 9; train 1 2 4 0 = 0; add 1 100 100 100 100; "
                + "codeOf 1 = 0");
    }

    private static void powersOfCodes() {
        int[] scalar = {0, 15, 80, 255};
        int[] product = {0, 3};
        for (int codes = 1; codes <= 4; codes++) {
            Run.of("scalar with " + codes, "sample 0 0 0 0; sample 9 9 9 9; train 1 1 " + codes + " 0",
                    "add 1 9 9 9 9; codeOf 1 = " + scalar[codes - 1]);
        }
        for (int codes = 1; codes <= 2; codes++) {
            Run.of("product with " + codes, "sample 0 0 0 0; sample 9 9 9 9; train 1 0 " + codes + " 0",
                    "add 1 9 9 9 9; codeOf 1 = " + product[codes - 1]);
        }
        Run.of("product with 3", "sample 0 0 0 0; sample 9 9 9 9; sample 9 0 9 0; train 1 0 3 0; "
                + "words = 0,0 9,9 9,0 / 0,0 9,9 9,0",
                "add 1 9 0 9 0; codeOf 1 = 8; add 2 9 0 0 0; codeOf 2 = 2; add 3 0 0 9 0; codeOf 3 = 6");
    }

    /** "How many entries a list has" */
    private static void countsOfLists() {
        Run run = new Run("counts").go(FLAT).go("entries 0 = 0; entries 1 = 0");
        for (int i = 0; i < 20; i++) {
            run.go("add " + i + " 10 0 0 0 = 1; entries 0 = 0; entries 1 = " + (i + 1));
        }
        run.go("remove 7; entries 1 = 19; add 7 0 0 0 0; entries 1 = 19; entries 0 = 1");
    }

    /** "NONE when not trained, or there is no such list": entries */
    private static void countsOfNoList() {
        for (int lists = 1; lists <= 4; lists++) {
            Run run = new Run("counts of " + lists).go("entries 0 = -1; sample 0 0 0 0; entries 0 = -1; "
                    + "train " + lists + " 2 1 0");
            run.go("entries 0 = 0; entries " + (lists - 1) + " = 0; entries " + lists + " = -1; entries -1 = -1; "
                    + "entries 5 = -1");
            for (String list : FAR) {
                run.go("entries " + list + " = -1");
            }
        }
    }
}
