import java.util.StringJoiner;

/** The edges that the document names for load, promise 21; above each test is its sentence. */
final class EdgesOfLoadTest {
    /** PRODUCT, lists at 0 and 10, words 0,0 and 0,5 / 0,0 and 7,0, entries 5 and 300, without the CHECK. */
    private static final int[] BASE = {86, 1, 0, 2, 2, 2, 5, 6, 7, 8,
        1, 44, 1, 44, 1, 44, 1, 44, 1, 54, 1, 44, 1, 44, 1, 44,
        1, 44, 1, 44, 1, 44, 1, 49, 1, 44, 1, 44, 1, 51, 1, 44,
        0, 5, 100, 100, 100, 100, 1, 44, 110, 104, 106, 100};
    private static final int ENTRIES = 42;
    private static final String UNCHANGED = "save = -1; centre 0 0 = -1000; entries 0 = -1; listOf 5 = -1; "
            + "turn 2 1 3 4 = true";

    public static void main(String[] args) {
        wellFormed();
        wellFormedOfEachSize();
        theIndexIsTrained();
        workedOutAnew();
        ofTheFileAlone();
        emptyFileOfEntries();
        loadedTwice();
        theFileStays();
        effortStays();
        samplesAndResultsStay();
        fewerThan11Bytes();
        mark();
        version();
        kind();
        lists();
        codes();
        numberOfEntries();
        bytesOfTheTurn();
        twoOfTheTurn();
        length();
        lengthOfEachKind();
        check();
        coordinatesOfCentresAndWords();
        idsOver999();
        idsThatDoNotGrow();
        coordinatesOfEntries();
        lastOf20Entries();
        Check.end();
    }

    /** BASE with some bytes at their places, in pairs of place and byte. */
    private static int[] with(int... placesAndBytes) {
        int[] all = BASE.clone();
        for (int i = 0; i < placesAndBytes.length; i += 2) {
            all[placesAndBytes[i]] = placesAndBytes[i + 1];
        }
        return all;
    }

    private static String file(int... bytes) {
        StringJoiner all = new StringJoiner(" ", "file ", " check");
        for (int b : bytes) {
            all.add(String.valueOf(b));
        }
        return all.toString();
    }

    private static void fault(String name, int fault, int... bytes) {
        Run.of(name, file(bytes), "load = " + fault, fault == 0 ? "save = " + (bytes.length + 1) : UNCHANGED);
    }

    /** A well-formed file whose centres, words and points are all 0, with the ids 0, 1, .. . */
    private static int[] zeros(int kind, int lists, int codes, int n) {
        int pairs = 4 * lists + (kind == 2 ? 0 : 4 * codes);
        int[] all = new int[10 + 2 * pairs + 6 * n];
        int[] head = {86, 1, kind, lists, codes, n, 5, 6, 7, 8};
        System.arraycopy(head, 0, all, 0, 10);
        for (int p = 10; p < 10 + 2 * pairs; p += 2) {
            all[p] = 1;
            all[p + 1] = 44;
        }
        for (int i = 0; i < n; i++) {
            int p = 10 + 2 * pairs + 6 * i;
            all[p + 1] = i;
            for (int k = 2; k < 6; k++) {
                all[p + k] = 100;
            }
        }
        return all;
    }

    /**
     * "When it is well-formed, the index is trained, with kind, lists, codes, turn, centres, words and entries of the
     * file alone": all of it
     */
    private static void wellFormed() {
        Run.of("well-formed", file(BASE), "load = 0; centres = 0,0,0,0 10,0,0,0; words = 0,0 0,5 / 0,0 7,0; "
                + "listOf 5 = 0; listOf 300 = 1",
                "codeOf 5 = 0; codeOf 300 = 3; entries 0 = 1; entries 1 = 1; entries 2 = -1; save = 55");
    }

    private static void wellFormedOfEachSize() {
        for (int kind = 0; kind <= 2; kind++) {
            for (int lists = 1; lists <= 4; lists++) {
                for (int codes = 1; codes <= 4; codes++) {
                    for (int n = 0; n <= 20; n += 10) {
                        int[] bytes = zeros(kind, lists, codes, n);
                        Run.of("size", file(bytes), "load = 0; entries 0 = " + n + "; "
                                + "entries " + (lists - 1) + " = " + (lists == 1 ? n : 0),
                                "entries " + lists + " = -1; word 0 " + (codes - 1) + " 0 = " + (kind == 2 ? -1000 : 0),
                                "word 0 " + codes + " 0 = -1000; save = " + (bytes.length + 1));
                    }
                }
            }
        }
    }

    /** "the index is trained" */
    private static void theIndexIsTrained() {
        Run.of("trained", "save = -1; search 0 0 0 0 1 = -1; add 9 0 0 0 0 = -1", file(BASE), "load = 0; "
                + "search 0 0 0 0 1 = 1; add 9 0 0 0 0 = 0",
                "turn 1 2 3 4 = false; train 1 0 1 0 = -1");
    }

    /** "(lists and codes of the entries are worked out anew, as by add)" */
    private static void workedOutAnew() {
        // 5 is between the lists and goes to the first, at 0,3 / 4,0 it is nearest to the second words
        Run.of("between the lists", file(with(44, 105, 45, 103, 46, 104)), "load = 0; listOf 5 = 0; codeOf 5 = 3; "
                + "remove 5",
                "add 5 5 3 4 0 = 0; codeOf 5 = 3; add 6 6 2 3 0 = 1; codeOf 6 = 0");
        // t0 = -1: what was at -10 is at 10
        Run.of("by the turn of the file", "turn 4 3 2 1", file(with(6, 3, 44, 90)), "load = 0; listOf 5 = 1; "
                + "listOf 300 = 0; codeOf 300 = 3");
        Run.of("equal words", file(with(33, 44)), "load = 0; words = 0,0 0,0 / 0,0 7,0; codeOf 300 = 2");
    }

    /** "of the file alone": nothing of what was there before is left. */
    private static void ofTheFileAlone() {
        Run.of("other entries, lists and words", "turn 2 1 4 3; sample 1 2 3 4; sample 50 50 50 50; train 4 1 4 1; "
                + "add 5 9 9 9 9; add 6 9 9 9 9; add 301 1 1 1 1",
                file(BASE), "load = 0; centres = 0,0,0,0 10,0,0,0; words = 0,0 0,5 / 0,0 7,0; listOf 6 = -1; "
                        + "listOf 301 = -1; codeOf 6 = -1",
                "entries 0 = 1; entries 1 = 1; entries 2 = -1; entries 3 = -1; word 2 0 0 = -1000; "
                        + "search 0 0 0 0 8 = 1; results = 5:0",
                "remove 5; remove 300; train 1 2 1 0 = 0; centres = 1,2,3,4");
    }

    /** "the number n of entries 0 .. 20": none of the entries from before are left. */
    private static void emptyFileOfEntries() {
        Run.of("no entries", "sample 0 0 0 0; train 1 2 1 0; add 5 0 0 0 0; add 6 0 0 0 0", file(zeros(2, 1, 1, 0)),
                "load = 0; entries 0 = 0; listOf 5 = -1; search 0 0 0 0 1 = 0; train 1 2 1 0 = 0");
    }

    private static void loadedTwice() {
        Run.of("twice", file(BASE), "load = 0; load = 0; entries 0 = 1; entries 1 = 1; add 7 0 0 0 0; remove 5; "
                + "load = 0",
                "entries 0 = 1; listOf 7 = -1; listOf 5 = 0");
    }

    /** "The file stays" */
    private static void theFileStays() {
        String bytes = file(BASE).substring("file ".length());
        Run.of("loaded", file(BASE), "load = 0; bytes = " + bytes, "add 7 0 0 0 0; load = 0; bytes = " + bytes);
        Run.of("refused", "file 86 1 2 3; load = 1; bytes = 86 1 2 3");
        Run.of("refused by its last reason", file(with(44, 201)), "load = 9; byteAt 44 = 201; "
                + "byteAt 54 = " + checkOf(with(44, 201)),
                "byteAt 55 = -1");
    }

    private static int checkOf(int... bytes) {
        long sum = 0;
        for (int p = 0; p < bytes.length; p++) {
            sum += (long) bytes[p] * (p + 1);
        }
        return (int) (sum % 251);
    }

    /** "PROBES, REFINE, samples and results stay too.": PROBES and REFINE */
    private static void effortStays() {
        Run.of("PROBES and REFINE", "effort 2 1", file(BASE), "load = 0; search 10 0 0 0 8 = 2; "
                + "results = 300:52 5:100; scanned = 2");
        Run.of("the first ones", file(BASE), "load = 0; search 10 0 0 0 8 = 1; results = 300:74; scanned = 1");
    }

    /** "PROBES, REFINE, samples and results stay too.": samples and results */
    private static void samplesAndResultsStay() {
        Run.of("samples and results", "sample 2 0 0 0; sample 4 0 0 0; train 1 2 1 1; add 8 5 0 0 0; add 9 6 0 0 0; "
                + "search 3 0 0 0 2 = 2",
                file(zeros(2, 1, 1, 0)), "load = 0; results = 8:4 9:9; scanned = 2; train 1 2 1 1 = 0; "
                        + "centres = 3,0,0,0; results = 8:4 9:9");
        Run.of("refused", "sample 2 0 0 0; sample 4 0 0 0; train 1 2 1 1; add 8 5 0 0 0; search 3 0 0 0 2 = 1; "
                + "load = 1; results = 8:4; scanned = 1");
    }

    /** "1 the file has fewer than 11 bytes" */
    private static void fewerThan11Bytes() {
        Run.of("no byte", "load = 1; " + UNCHANGED);
        Run good = new Run("good bytes");
        Run wrong = new Run("wrong bytes");
        for (int length = 0; length < 11; length++) {
            good.go("load = 1; alter " + length + " " + BASE[length]);
            wrong.go("load = 1; alter " + length + " 0");
        }
        good.go("load = 6; cut 10; load = 1; " + UNCHANGED);
        wrong.go("load = 2; cut 10; load = 1; " + UNCHANGED);
    }

    /** "2 byte 0 is not 86" */
    private static void mark() {
        for (int b = 0; b <= 255; b++) {
            fault("byte 0", b == 86 ? 0 : 2, with(0, b));
        }
    }

    /** "3 byte 1 is not 1" */
    private static void version() {
        for (int b = 0; b <= 255; b++) {
            fault("byte 1", b == 1 ? 0 : 3, with(1, b));
        }
    }

    /** "4 kind, lists, codes or n is not in its range": kind */
    private static void kind() {
        for (int b = 0; b <= 255; b++) {
            fault("kind " + b, b <= 1 ? 0 : b == 2 ? 6 : 4, with(2, b));
        }
        fault("FLAT", 0, zeros(2, 2, 2, 2));
    }

    private static void oneSize(String name, int place, int least, int greatest) {
        for (int kind = 0; kind <= 2; kind++) {
            for (int b = 0; b <= 255; b++) {
                int[] bytes = zeros(kind, 1, 1, 0);
                int own = bytes[place];
                bytes[place] = b;
                boolean sameLength = b == own || kind == 2 && place == 4;
                fault(name + " " + b, b < least || b > greatest ? 4 : sameLength ? 0 : 6, bytes);
            }
        }
    }

    /** "4 kind, lists, codes or n is not in its range": "the number of lists 1 .. 4" */
    private static void lists() {
        oneSize("lists", 3, 1, 4);
    }

    /** "4 kind, lists, codes or n is not in its range": "codes 1 .. 4", for FLAT too */
    private static void codes() {
        oneSize("codes", 4, 1, 4);
    }

    /** "4 kind, lists, codes or n is not in its range": "the number n of entries 0 .. 20" */
    private static void numberOfEntries() {
        oneSize("n", 5, 0, 20);
        fault("20 entries", 0, zeros(1, 4, 4, 20));
        fault("21 entries with all their bytes", 4, zeros(1, 4, 4, 21));
    }

    /** "5 the bytes of the turn do not give a turn": each is 1 .. 4 or -4 .. -1 */
    private static void bytesOfTheTurn() {
        for (int place = 6; place < 10; place++) {
            for (int b = 0; b <= 255; b++) {
                fault("turn " + (place - 6) + " by " + b, Math.abs(b - 4) == place - 5 ? 0 : 5, with(place, b));
            }
        }
        fault("least turn", 0, with(6, 0, 7, 1, 8, 2, 9, 3));
        fault("greatest turn", 0, with(6, 8, 7, 7, 8, 6, 9, 5));
    }

    /** "5 the bytes of the turn do not give a turn": no two have the same absolute value */
    private static void twoOfTheTurn() {
        fault("2 and 2", 5, with(6, 6));
        fault("1 and -1", 5, with(7, 3));
        fault("4 and -4", 5, with(6, 0));
        fault("all 1", 5, with(7, 5, 8, 5, 9, 5));
        fault("all 0", 5, with(6, 4, 7, 4, 8, 4, 9, 4));
        fault("two exchanged", 0, with(6, 6, 7, 5));
    }

    /** "6 the length is not the one that kind, lists, codes and n ask for" */
    private static void length() {
        Run.of("a byte less", file(BASE), "cut 54; load = 6; " + UNCHANGED);
        Run.of("a byte more", file(BASE), "alter 55 0; load = 6; cut 55; load = 0");
        Run.of("two bytes of a CHECK", file(java.util.Arrays.copyOf(BASE, 55)), "load = 6; " + UNCHANGED);
        Run.of("an entry less", file(java.util.Arrays.copyOf(BASE, 48)), "load = 6; " + UNCHANGED);
        Run.of("an entry more", file(java.util.Arrays.copyOf(BASE, 60)), "load = 6; " + UNCHANGED);
        Run full = new Run("250 bytes").go(file(BASE));
        for (int p = 55; p < 250; p++) {
            full.go("alter " + p + " 0");
        }
        full.go("load = 6; " + UNCHANGED);
    }

    private static void lengthOfEachKind() {
        for (int kind = 0; kind <= 2; kind++) {
            for (int size = 1; size <= 4; size++) {
                int[] bytes = zeros(kind, size, 5 - size, 3);
                Run.of("length", file(bytes), "load = 0; alter " + (bytes.length + 1) + " 0; load = 6; "
                        + "cut " + bytes.length + "; load = 6",
                        "entries 0 = 3; entries " + size + " = -1");
            }
        }
    }

    /** "7 the last byte is not the CHECK" */
    private static void check() {
        int right = checkOf(BASE);
        for (int b = 0; b <= 255; b++) {
            Run.of("CHECK " + b, file(BASE), "alter 54 " + b + "; load = " + (b == right ? 0 : 7));
        }
        for (int p = 10; p < 54; p++) {
            Run.of("another byte at " + p, file(BASE), "alter " + p + " " + (BASE[p] + 1) + "; load = 7; " + UNCHANGED);
        }
    }

    /** "8 the two bytes of a coordinate of a centre or word do not give -300 .. 300" */
    private static void coordinatesOfCentresAndWords() {
        for (int p = 10; p < ENTRIES; p += 2) {
            fault("-300 at " + p, 0, with(p, 0, p + 1, 0));
            fault("300 at " + p, 0, with(p, 2, p + 1, 88));
            fault("301 at " + p, 8, with(p, 2, p + 1, 89));
            fault("467 at " + p, 8, with(p, 2, p + 1, 255));
            fault("468 at " + p, 8, with(p, 3, p + 1, 0));
            fault("32468 at " + p, 8, with(p, 128, p + 1, 0));
            fault("65235 at " + p, 8, with(p, 255, p + 1, 255));
        }
    }

    /** "9 an id is over 999" */
    private static void idsOver999() {
        fault("last id 999", 0, with(48, 3, 49, 231));
        fault("last id 1000", 9, with(48, 3, 49, 232));
        fault("last id 1023", 9, with(48, 3, 49, 255));
        fault("last id 1024", 9, with(48, 4, 49, 0));
        fault("last id 65535", 9, with(48, 255, 49, 255));
        fault("first id 1000", 9, with(42, 3, 43, 232, 48, 3, 49, 233));
        fault("first id 0", 0, with(42, 0, 43, 0));
    }

    /** "or not greater than the one before it" */
    private static void idsThatDoNotGrow() {
        fault("299 and 300", 0, with(42, 1, 43, 43));
        fault("300 and 300", 9, with(42, 1, 43, 44));
        fault("301 and 300", 9, with(42, 1, 43, 45));
        fault("999 and 300", 9, with(42, 3, 43, 231));
        fault("0 and 0", 9, with(42, 0, 43, 0, 48, 0, 49, 0));
        fault("0 and 1", 0, with(42, 0, 43, 0, 48, 0, 49, 1));
        fault("255 and 256", 0, with(42, 0, 43, 255, 48, 1, 49, 0));
        fault("256 and 255", 9, with(42, 1, 43, 0, 48, 0, 49, 255));
    }

    /** "or the byte of a coordinate of an entry's point is over 200" */
    private static void coordinatesOfEntries() {
        for (int entry = 0; entry < 2; entry++) {
            for (int k = 2; k < 6; k++) {
                int p = ENTRIES + 6 * entry + k;
                fault("0 at " + p, 0, with(p, 0));
                fault("200 at " + p, 0, with(p, 200));
                fault("201 at " + p, 9, with(p, 201));
                fault("255 at " + p, 9, with(p, 255));
            }
        }
    }

    private static void lastOf20Entries() {
        int[] bytes = zeros(2, 1, 1, 20);
        int last = bytes.length - 6;
        bytes[last] = 3;
        bytes[last + 1] = 231;
        fault("20 entries", 0, bytes);
        bytes[last + 1] = 232;
        fault("the last id over 999", 9, bytes);
        bytes[last] = 0;
        bytes[last + 1] = 18;
        fault("the last id as the one before it", 9, bytes);
        bytes[last + 1] = 19;
        bytes[last + 5] = 201;
        fault("the last coordinate over 200", 9, bytes);
    }
}
