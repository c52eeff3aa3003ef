/** The edges that the document names for the file and promises 17 to 20; above each test is its sentence. */
final class EdgesOfFileTest {
    private static final String[] FAR = {"least", "greatest", "-2147483647", "65536", "-65536", "-256", "506"};
    /** A FLAT index of one list without entries, up to the last byte of its centre, whose CHECK is 0 with 113 there. */
    private static final String HEAD = "86 1 2 1 1 0 5 6 7 8 1 44 1 44 1 44 1 ";

    public static void main(String[] args) {
        emptyAtFirst();
        atMost250();
        alterAtEachPlace();
        alterOutside();
        bytesInRange();
        addedAfterACut();
        cutInRange();
        cutOutside();
        bytesThatAreThere();
        bytesThatAreNotThere();
        savedLengths();
        savedHead();
        savedTurn();
        savedOverAnotherFile();
        notTrained();
        entriesByGrowingId();
        coordinatesOfCentres();
        coordinatesOfWords();
        idsInTwoBytes();
        coordinatesOfEntries();
        checkModulo251();
        checkOfTheLongestFile();
        Check.end();
    }

    private static Run full(String name) {
        Run run = new Run(name);
        for (int p = 0; p < 250; p++) {
            run.go("alter " + p + " " + p + " = true");
        }
        return run;
    }

    /** "THE FILE is a row of at most 250 bytes 0 .. 255, at first empty." : empty */
    private static void emptyAtFirst() {
        Run.of("empty", "bytes =; byteAt 0 = -1; cut 0 = true; cut 1 = false; cut -1 = false; alter 1 0 = false; "
                + "alter -1 0 = false",
                "load = 1; bytes =; alter 0 0 = true; bytes = 0; cut 1 = true");
        Run.of("no sample and no training writes", "sample 1 2 3 4; train 1 2 1 0; add 1 0 0 0 0; search 0 0 0 0 1; "
                + "bytes =");
    }

    /** "when p is 250": the file has at most 250 bytes. */
    private static void atMost250() {
        full("250 bytes").go("alter 250 0 = false; alter 250 255 = false; alter 251 0 = false; byteAt 249 = 249; "
                + "byteAt 250 = -1",
                "cut 251 = false; cut 250 = true; alter 249 7 = true; byteAt 249 = 7; alter 0 9 = true; byteAt 0 = 9; "
                        + "byteAt 250 = -1",
                "cut 249 = true; byteAt 249 = -1; alter 250 1 = false; alter 249 8 = true; byteAt 249 = 8; "
                        + "alter 250 1 = false; load = 2");
        full("all of them stay").go("byteAt 0 = 0; byteAt 1 = 1; byteAt 127 = 127; byteAt 128 = 128; "
                + "byteAt 200 = 200; byteAt 248 = 248");
    }

    /** "The byte at place p of the file becomes b; where p is the length of the file, b is added to it." */
    private static void alterAtEachPlace() {
        Run.of("alter", "file 1 2 3; alter 0 7 = true; bytes = 7 2 3; alter 1 8 = true; bytes = 7 8 3; "
                + "alter 2 9 = true; bytes = 7 8 9",
                "alter 3 4 = true; bytes = 7 8 9 4; alter 4 5 = true; bytes = 7 8 9 4 5; alter 4 5 = true; "
                        + "bytes = 7 8 9 4 5");
    }

    /** "false when p is not 0 .. the length" */
    private static void alterOutside() {
        Run run = new Run("alter outside").go("file 1 2 3; alter -1 9 = false; alter 4 9 = false; alter 5 9 = false; "
                + "alter 249 9 = false");
        run.go("alter 250 9 = false; alter 251 9 = false");
        for (String p : FAR) {
            run.go("alter " + p + " 9 = false");
        }
        run.go("bytes = 1 2 3");
    }

    /** "or b is not 0 .. 255" */
    private static void bytesInRange() {
        Run run = new Run("bytes").go("alter 0 0 = true; byteAt 0 = 0; alter 0 255 = true; byteAt 0 = 255; "
                + "alter 1 255 = true; alter 2 0 = true");
        for (int p = 0; p <= 3; p++) {
            run.go("alter " + p + " -1 = false; alter " + p + " 256 = false; alter " + p + " -255 = false; "
                    + "alter " + p + " 257 = false");
            for (String b : FAR) {
                run.go("alter " + p + " " + b + " = false");
            }
        }
        run.go("bytes = 255 255 0; alter 0 127 = true; alter 1 128 = true; alter 2 1 = true; alter 3 254 = true; "
                + "bytes = 127 128 1 254");
    }

    /** "The file keeps its first n bytes alone": what was behind them does not come again. */
    private static void addedAfterACut() {
        Run.of("added after a cut", "file 1 2 3 4; cut 2 = true; alter 3 9 = false; alter 2 9 = true; bytes = 1 2 9; "
                + "cut 0 = true",
                "bytes =; alter 1 5 = false; alter 0 5 = true; bytes = 5");
    }

    /** "The file keeps its first n bytes alone: true" */
    private static void cutInRange() {
        for (int n = 0; n <= 4; n++) {
            String kept = "1 2 3 4".substring(0, Math.max(0, 2 * n - 1));
            Run.of("cut " + n, "file 1 2 3 4; cut " + n + " = true; bytes = " + kept, "cut " + n + " = true; "
                    + "cut " + (n + 1) + " = false");
        }
    }

    /** "false when n is not 0 .. its length" */
    private static void cutOutside() {
        Run run = new Run("cut outside").go("file 1 2 3 4; cut -1 = false; cut 5 = false; cut 6 = false; "
                + "cut 250 = false; cut -4 = false");
        for (String n : FAR) {
            run.go("cut " + n + " = false");
        }
        run.go("bytes = 1 2 3 4; cut 0; cut 1 = false; cut -1 = false");
    }

    /** "The byte at place p of the file" */
    private static void bytesThatAreThere() {
        Run.of("bytes", "file 0 255 128; byteAt 0 = 0; byteAt 1 = 255; byteAt 2 = 128");
    }

    /** "NONE when there is none": of a byte */
    private static void bytesThatAreNotThere() {
        Run run = new Run("no byte").go("byteAt 0 = -1; byteAt -1 = -1; file 0 255 128; byteAt -1 = -1; "
                + "byteAt 3 = -1; byteAt 4 = -1");
        for (String p : FAR) {
            run.go("byteAt " + p + " = -1");
        }
        run.go("byteAt 249 = -1; byteAt 250 = -1; byteAt 251 = -1; cut 1; byteAt 1 = -1; byteAt 0 = 0; cut 0; "
                + "byteAt 0 = -1");
    }

    /** "The file becomes the well-formed file of the index. Answers its length": from the shortest to the longest. */
    private static void savedLengths() {
        for (int kind = 0; kind <= 2; kind++) {
            for (int lists = 1; lists <= 4; lists++) {
                for (int codes = 1; codes <= 4; codes++) {
                    int empty = 10 + 8 * lists + (kind == 2 ? 0 : 8 * codes) + 1;
                    savedLength(empty, "train " + lists + " " + kind + " " + codes + " 1; ");
                }
            }
        }
        Run.of("the shortest", "sample 0 0 0 0; train 1 2 1 0; save = 19");
    }

    private static void savedLength(int empty, String train) {
        Run run = new Run(train).go("sample 1 2 3 4; " + train + "save = " + empty + "; byteAt 5 = 0; "
                + "byteAt " + empty + " = -1; load = 0");
        for (int n = 1; n <= 20; n++) {
            run.go("add " + n + " 0 0 0 0; save = " + (empty + 6 * n) + "; byteAt 5 = " + n);
        }
        run.go("byteAt " + (empty + 118) + " = 100; byteAt " + (empty + 120) + " = -1; load = 0; entries 0 = 20");
    }

    /** "86; 1; the kind; the number of lists 1 .. 4; codes 1 .. 4; the number n of entries 0 .. 20" */
    private static void savedHead() {
        for (int kind = 0; kind <= 2; kind++) {
            for (int lists = 1; lists <= 4; lists++) {
                int codes = 5 - lists;
                Run.of("head", "sample 1 2 3 4; train " + lists + " " + kind + " " + codes + " 0; save; "
                        + "byteAt 0 = 86; byteAt 1 = 1",
                        "byteAt 2 = " + kind + "; byteAt 3 = " + lists + "; byteAt 4 = " + codes + "; byteAt 5 = 0");
            }
        }
    }

    /** "t0 + 4, t1 + 4, t2 + 4, t3 + 4": from -4 to 4. */
    private static void savedTurn() {
        Run.of("least", "turn -4 -3 -2 -1; sample 1 2 3 4; train 1 2 1 0; save; byteAt 6 = 0; byteAt 7 = 1; "
                + "byteAt 8 = 2; byteAt 9 = 3");
        Run.of("greatest", "turn 4 3 2 1; sample 1 2 3 4; train 1 2 1 0; save; byteAt 6 = 8; byteAt 7 = 7; "
                + "byteAt 8 = 6; byteAt 9 = 5");
    }

    /** "The file becomes the well-formed file of the index.": whatever it was before */
    private static void savedOverAnotherFile() {
        full("over a longer file").go("sample 1 2 3 4; train 1 2 1 0; save = 19",
                "bytes = 86 1 2 1 1 0 5 6 7 8 1 45 1 46 1 47 1 48 check; alter 20 1 = false; alter 19 1 = true; "
                        + "load = 6");
        Run.of("over a shorter file", "sample 1 2 3 4; train 1 2 1 0; save = 19; add 7 0 0 0 0; byteAt 5 = 0; "
                + "save = 25; byteAt 5 = 1",
                "remove 7; byteAt 5 = 1; byteAt 24 = 32; save = 19; byteAt 5 = 0; byteAt 19 = -1");
        Run.of("twice", "sample 1 2 3 4; train 1 2 1 0; save = 19; save = 19; "
                + "bytes = 86 1 2 1 1 0 5 6 7 8 1 45 1 46 1 47 1 48 check");
    }

    /** "NONE when not trained": save */
    private static void notTrained() {
        Run.of("not trained", "save = -1; bytes =; sample 1 2 3 4; save = -1; file 86 1 9; save = -1; bytes = 86 1 9; "
                + "load = 1; save = -1",
                "train 1 3 1 0 = -3; save = -1; bytes = 86 1 9; train 1 2 1 0; bytes = 86 1 9; save = 19; "
                        + "byteAt 2 = 2");
    }

    /** "the entries by growing id" */
    private static void entriesByGrowingId() {
        Run.of("growing ids", "sample 0 0 0 0; train 1 2 1 0; add 999 4 0 0 0; add 0 1 0 0 0; add 512 3 0 0 0; "
                + "add 255 2 0 0 0; add 7 9 0 0 0",
                "remove 7; save = 43",
                "bytes = 86 1 2 1 1 4 5 6 7 8 " + "1 44 ".repeat(4) + "0 0 101 100 100 100 0 255 102 100 100 100 "
                        + "2 0 103 100 100 100 3 231 104 100 100 100 check");
    }

    /**
     * "A coordinate v of a centre or word, -300 .. 300, is two bytes, (v + 300) / 256 and (v + 300) % 256": of a centre
     */
    private static void coordinatesOfCentres() {
        String bytes = "86 1 2 2 1 0 5 6 7 8 0 0 0 1 0 255 1 0 1 44 1 255 2 0 2 88 check";
        Run.of("centres", "file " + bytes + "; load = 0; centres = -300,-299,-45,-44 0,211,212,300; cut 0; save = 27; "
                + "bytes = " + bytes);
    }

    /**
     * "A coordinate v of a centre or word, -300 .. 300, is two bytes, (v + 300) / 256 and (v + 300) % 256": of a word
     */
    private static void coordinatesOfWords() {
        String words = "0 0 0 1 0 255 1 0 1 44 1 255 2 0 2 88 check";
        String scalar = "86 1 1 1 2 0 5 6 7 8 1 44 1 44 1 44 1 44 " + words;
        Run.of("words", "file " + scalar + "; load = 0; words = -300 -299 / -45 -44 / 0 211 / 212 300; cut 0; "
                + "save = 35; bytes = " + scalar);
        String product = "86 1 0 1 2 0 5 6 7 8 1 44 1 44 1 44 1 44 " + words;
        Run.of("words of pairs", "file " + product + "; load = 0; words = -300,-299 -45,-44 / 0,211 212,300; cut 0; "
                + "save = 35; bytes = " + product);
    }

    /** "an id likewise, id / 256 and id % 256" */
    private static void idsInTwoBytes() {
        int[][] all = {{0, 0, 0}, {1, 0, 1}, {255, 0, 255}, {256, 1, 0}, {511, 1, 255}, {512, 2, 0}, {768, 3, 0},
            {999, 3, 231}};
        for (int[] id : all) {
            Run.of("id " + id[0], "sample 0 0 0 0; train 1 2 1 0; add " + id[0] + " 1 0 0 0; save = 25; "
                    + "byteAt 18 = " + id[1],
                    "byteAt 19 = " + id[2] + "; byteAt 20 = 101; load = 0; listOf " + id[0] + " = 0; "
                            + "remove " + id[0] + " = true");
        }
    }

    /** "a coordinate v of an entry's point is one byte v + 100" */
    private static void coordinatesOfEntries() {
        Run.of("coordinates", "sample 0 0 0 0; train 1 2 1 0; add 3 -100 100 0 -1; add 4 27 28 -44 -45; save = 31",
                "byteAt 20 = 0; byteAt 21 = 200; byteAt 22 = 100; byteAt 23 = 99; byteAt 26 = 127; byteAt 27 = 128; "
                        + "byteAt 28 = 56; byteAt 29 = 55",
                "load = 0; search -100 100 0 -1 1 = 1; results = 3:0; search 27 28 -44 -45 1 = 1; results = 4:0");
    }

    /**
     * "The CHECK is one byte: the sum of b * (p + 1) over all bytes b before it at their places p (counted from 0),
     * modulo 251."
     */
    private static void checkModulo251() {
        // with 99 the sum is 4015, with 113 it is 17 * 251, and each 14 more bring 1 more of the CHECK
        int[][] all = {{85, 249}, {99, 250}, {113, 0}, {127, 1}, {141, 2}, {155, 3}, {169, 4}, {183, 5}};
        for (int[] a : all) {
            Run run = new Run("CHECK " + a[1]).go("file " + HEAD + a[0] + " " + a[1] + "; load = 0; cut 0; save = 19; "
                    + "byteAt 18 = " + a[1]);
            int before = a[1] == 0 ? 250 : a[1] - 1;
            run.go("alter 18 " + before + "; load = 7; alter 18 " + (a[1] + 1) + "; load = 7; alter 18 " + a[1] + "; "
                    + "load = 0");
            if (a[1] <= 4) {
                run.go("alter 18 " + (a[1] + 251) + "; load = 7");
            }
        }
    }

    /** 195 bytes: the sum is far over what one byte, or two, can hold. */
    private static void checkOfTheLongestFile() {
        StringBuilder bytes = new StringBuilder("86 1 1 4 4 20 5 6 7 8 ").append("2 88 ".repeat(32));
        Run run = new Run("the longest file");
        for (int n = 0; n < 20; n++) {
            bytes.append("3 ").append(212 + n).append(" 200 200 200 200 ");
        }
        run.go("file " + bytes + "check; load = 0; cut 0; save = 195; bytes = " + bytes + "check");
    }
}
