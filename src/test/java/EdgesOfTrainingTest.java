/** The edges that the document names for training and for promises 3 to 6; above each test is its sentence. */
final class EdgesOfTrainingTest {
    private static final String[] FAR = {"least", "greatest", "-2147483647", "256", "-256", "65537"};
    private static final String SCALAR_CORNERS = "sample -100 100 -100 0; sample 100 -100 100 0";

    public static void main(String[] args) {
        atMost24Samples();
        fullWhenTrainedAndLoaded();
        samplesStayWhenTrained();
        samplesStayWhenLoaded();
        allSamplesInTheirOrder();
        leftAfterAllRounds();
        productWords();
        scalarWords();
        scalarWordsAtTheCorners();
        oneCode();
        flatHasNoWords();
        earlierTrainingIsReplaced();
        earlierLoadIsReplaced();
        sumOverSamplesAndParts();
        noSample();
        entriesAreThere();
        listsInRange();
        kindInRange();
        codesInRange();
        roundsInRange();
        centresThatAreThere();
        centresThatAreNotThere();
        wordsOfProduct();
        wordsOfScalar();
        wordsWhenNotTrained();
        Check.end();
    }

    /** "Adds a sample: true. False when the point is BAD, or there are 24 samples." */
    private static void atMost24Samples() {
        Run run = new Run("24 samples");
        for (int i = 0; i < 24; i++) {
            run.go("sample " + (i == 23 ? 24 : 0) + " 0 0 0 = true", "sample 0 0 101 0 = false");
        }
        run.go("sample 100 0 0 0 = false; sample 0 0 0 0 = false; sample 101 0 0 0 = false");
        run.go("train 1 2 1 1 = 0; centres = 1,0,0,0");
    }

    /** "there are 24 samples": also when the index is trained or loaded. */
    private static void fullWhenTrainedAndLoaded() {
        String file = "file 86 1 2 1 1 0 5 6 7 8 1 44 1 44 1 44 1 44 check";
        Run run = new Run("full").go(Run.line(new int[23]), "train 1 2 1 1; sample 24 0 0 0 = true; "
                + "sample 0 0 0 0 = false");
        run.go(file, "load; sample 0 0 0 0 = false; train 1 2 1 1; centres = 1,0,0,0; sample 0 0 0 0 = false");
    }

    /** "Samples stay for good, also when the index is trained or loaded.": trained */
    private static void samplesStayWhenTrained() {
        Run.of("trained twice", Run.line(2, 4), "train 1 2 1 1; centres = 3,0,0,0; train 1 2 1 1; centres = 3,0,0,0",
                Run.line(9), "centres = 3,0,0,0; train 1 2 1 1; centres = 5,0,0,0");
    }

    /** "Samples stay for good, also when the index is trained or loaded.": loaded */
    private static void samplesStayWhenLoaded() {
        Run.of("loaded", Run.line(2, 4), "file 86 1 2 1 1 0 5 6 7 8 1 45 1 44 1 44 1 44 check; load = 0",
                "centres = 1,0,0,0; train 1 2 1 1 = 0; centres = 3,0,0,0");
    }

    /**
     * "TRAINING clusters all samples, in the order in which they were given, to the centres of the LISTS 0, 1, .. ."
     */
    private static void allSamplesInTheirOrder() {
        Run.of("order", Run.line(5, -9, 8), "train 3 2 1 0; centres = 5,0,0,0 -9,0,0,0 8,0,0,0");
        Run.of("another order", Run.line(8, 5, -9), "train 3 2 1 0; centres = 8,0,0,0 -9,0,0,0 5,0,0,0");
        Run.of("the last of 24", Run.line(new int[23]), Run.line(-100), "train 2 2 1 0; centres = 0,0,0,0 -100,0,0,0");
    }

    /** "what is left of all samples (at the centres of the lists after all rounds)" */
    private static void leftAfterAllRounds() {
        Run.of("one round", Run.line(0, 4), "train 1 1 2 1 = 0; centres = 2,0,0,0; words = -2 2 / 0 0 / 0 0 / 0 0");
        // 6 is a member of centre 0 in the only round, but nearer to centre 1 at 9 than to centre 0 at 1 after it
        Run.of("another nearest centre", Run.line(0, 0, 0, 6, 12, 8, 8), "train 2 1 2 1",
                "centres = 1,0,0,0 9,0,0,0; words = -3 3 / 0 0 / 0 0 / 0 0");
    }

    /** "kind 0, PRODUCT: part 0 is the coordinates 0 and 1, part 1 the coordinates 2 and 3" */
    private static void productWords() {
        Run.of("product", "sample 0 0 0 0; sample 1 2 3 4; train 1 0 2 0 = 0; words = 0,0 1,2 / 0,0 3,4");
        Run.of("product with one code", "sample 0 0 0 0; sample 1 2 3 4; train 1 0 1 0 = 30; words = 0,0 / 0,0");
        Run.of("product at the corners", "sample -100 -100 -100 -100; sample 100 100 100 100; train 1 0 2 0 = 0",
                "words = 0,0 200,200 / 0,0 200,200; save = 35; load = 0; words = 0,0 200,200 / 0,0 200,200");
        Run.of("more words than samples", "sample 0 0 0 0; sample 1 2 3 4; train 1 0 4 0 = 0",
                "words = 0,0 1,2 0,0 0,0 / 0,0 3,4 0,0 0,0");
    }

    /** "word j of a part is low + (high - low) * j / (codes - 1), rounded down" */
    private static void scalarWords() {
        Run.of("2 codes", Run.line(0, 10), "train 1 1 2 0 = 0; words = 0 10 / 0 0 / 0 0 / 0 0");
        Run.of("3 codes", Run.line(0, 10), "train 1 1 3 0 = 0; words = 0 5 10 / 0 0 0 / 0 0 0 / 0 0 0");
        Run.of("4 codes", Run.line(0, 10), "train 1 1 4 0 = 0; words = 0 3 6 10 / 0 0 0 0 / 0 0 0 0 / 0 0 0 0");
        Run.of("3 codes below 0", Run.line(0, -9), "train 1 1 3 0; words = -9 -5 0 / 0 0 0 / 0 0 0 / 0 0 0");
        Run.of("4 codes below 0", Run.line(0, -10), "train 1 1 4 0; words = -10 -7 -4 0 / 0 0 0 0 / 0 0 0 0 / 0 0 0 0");
        Run.of("low and high are one", "sample 4 5 6 7; train 1 1 4 0 = 0; "
                + "words = 0 0 0 0 / 0 0 0 0 / 0 0 0 0 / 0 0 0 0");
        Run.of("low in the middle", Run.line(5, 8, 1, 9, 4), "train 1 1 2 0; words = -4 4 / 0 0 / 0 0 / 0 0");
    }

    /** "with the least and the greatest value low and high of that coordinate in what is left of the samples" */
    private static void scalarWordsAtTheCorners() {
        Run.of("corners", SCALAR_CORNERS, "train 1 1 4 0 = 0",
                "words = 0 66 133 200 / -200 -134 -67 0 / 0 66 133 200 / 0 0 0 0",
                "save = 51; load = 0; words = 0 66 133 200 / -200 -134 -67 0 / 0 66 133 200 / 0 0 0 0");
        Run.of("the last of 24 samples", Run.line(new int[23]), Run.line(7), "train 1 1 2 0; "
                + "words = 0 7 / 0 0 / 0 0 / 0 0");
        Run.of("the last of 24 samples, below", Run.line(new int[23]), Run.line(-7),
                "train 1 1 2 0; words = -7 0 / 0 0 / 0 0 / 0 0");
    }

    /** "when codes is 1, word 0 is low" */
    private static void oneCode() {
        Run.of("one code", Run.line(0, -10, 10), "train 1 1 1 0 = 500; words = -10 / 0 / 0 / 0");
        Run.of("one code over 0", Run.line(0, 10), "train 1 1 1 0 = 100; words = 0 / 0 / 0 / 0");
        Run.of("one code after a round", Run.line(0, -10), "train 1 1 1 1 = 100; centres = -5,0,0,0; "
                + "words = -5 / 0 / 0 / 0");
    }

    /** "Kind 2, FLAT: no parts and no words." */
    private static void flatHasNoWords() {
        for (int codes = 1; codes <= 4; codes++) {
            Run.of("flat", Run.line(0, 10), "train 1 1 4 0; train 1 2 " + codes + " 0 = 0; words =",
                    "word 0 0 0 = -1000; word 3 0 0 = -1000; add 1 7 7 7 7; codeOf 1 = 0");
        }
    }

    /** "what an earlier training or load gave is replaced": a training */
    private static void earlierTrainingIsReplaced() {
        Run.of("less than before", "sample 0 0 0 0; sample 4 0 6 1; train 4 1 4 0; train 1 0 2 0 = 0",
                "centres = 0,0,0,0; words = 0,0 4,0 / 0,0 6,1; entries 0 = 0; entries 1 = -1; centre 1 0 = -1000",
                "word 2 0 0 = -1000; word 0 2 0 = -1000; save = 35");
        Run.of("more than before", "sample 0 0 0 0; sample 4 0 6 1; train 1 2 1 0; train 2 1 2 0 = 0",
                "centres = 0,0,0,0 4,0,6,1; words = 0 0 / 0 0 / 0 0 / 0 0; entries 1 = 0; entries 2 = -1; save = 43");
        Run.of("an answer of its own", Run.line(0, 10), "train 1 1 1 0 = 100; train 1 1 1 0 = 100; train 1 1 2 0 = 0");
    }

    /** "what an earlier training or load gave is replaced": a load */
    private static void earlierLoadIsReplaced() {
        Run.of("after a load", "sample 0 0 0 0; sample 4 0 6 1",
                "file 86 1 1 2 2 0 5 6 7 8 " + "1 60 ".repeat(16) + "check; load = 0; "
                        + "centres = 16,16,16,16 16,16,16,16",
                "train 1 0 1 0 = 53; centres = 0,0,0,0; words = 0,0 / 0,0; entries 1 = -1");
    }

    /**
     * "the sum, over all samples and for each over all parts, of the distance between that part of what is left of the
     * sample and the word nearest to it (0 for FLAT)"
     */
    private static void sumOverSamplesAndParts() {
        String corners = "sample -100 -100 -100 -100; " + "sample 100 100 100 100; ".repeat(23);
        Run.of("greatest sum of a product", corners, "train 1 0 1 0 = 3680000");
        Run.of("greatest sum of a scalar", corners, "train 1 1 1 0 = 3680000");
        Run.of("flat", corners, "train 1 2 1 0 = 0");
        Run.of("each part", "sample 0 0 0 0; sample 1 2 3 4; train 1 1 1 0 = 30; train 1 0 1 0 = 30");
        Run.of("the nearest word", Run.line(0, 10, 4, 6, 5), "train 1 1 2 0 = 57");
    }

    /** "-1 when there is no sample" */
    private static void noSample() {
        Run.of("no sample", "train 1 0 1 0 = -1; train 4 2 4 8 = -1; sample 101 0 0 0 = false; train 1 0 1 0 = -1",
                "centre 0 0 = -1000; save = -1; sample 100 0 0 0 = true; train 1 0 1 0 = 0");
        Run.of("no sample, but loaded", "file 86 1 2 1 1 0 5 6 7 8 1 44 1 44 1 44 1 44 check; load = 0; "
                + "train 1 0 1 0 = -1");
    }

    /** "-2 when there are entries" */
    private static void entriesAreThere() {
        Run.of("one entry", "sample 0 0 0 0; train 1 2 1 0; add 999 1 1 1 1; train 1 0 1 0 = -2; remove 999; "
                + "train 1 0 1 0 = 0");
        Run run = new Run("20 entries").go("sample 0 0 0 0; train 1 2 1 0");
        for (int id = 0; id < 20; id++) {
            run.go("add " + id + " 0 0 0 0");
        }
        for (int id = 19; id >= 0; id--) {
            run.go("train 1 0 1 0 = -2; remove " + id);
        }
        run.go("train 1 0 1 0 = 0");
        Run.of("an entry of a file", "sample 0 0 0 0; file 86 1 2 1 1 1 5 6 7 8 1 44 1 44 1 44 1 44 0 7 0 0 0 0 check",
                "load = 0; train 1 0 1 0 = -2; remove 7; train 1 0 1 0 = 0");
    }

    private static void trains(String name, String before, String after, String[] right, String... wrong) {
        for (String v : right) {
            Run.of(name, "sample 0 0 0 0; train " + before + v + after + " = 0; save; byteAt 0 = 86");
        }
        for (String v : wrong) {
            Run.of(name, "sample 0 0 0 0; train " + before + v + after + " = -3; save = -1; train 1 0 1 0 = 0");
        }
        for (String v : FAR) {
            Run.of(name, "sample 0 0 0 0; train " + before + v + after + " = -3; save = -1; train 1 0 1 0 = 0");
        }
    }

    /** "-3 when lists is not 1 .. 4" */
    private static void listsInRange() {
        for (int kind = 0; kind <= 2; kind++) {
            trains("lists", "", " " + kind + " 1 0", new String[] {"1", "2", "3", "4"}, "0", "-1", "5", "6");
        }
    }

    /** "kind not 0 .. 2" */
    private static void kindInRange() {
        trains("kind", "1 ", " 1 0", new String[] {"0", "1", "2"}, "-1", "-2", "3", "4");
    }

    /** "codes not 1 .. 4 (also for FLAT, where it has no other use than in the file)" */
    private static void codesInRange() {
        for (int kind = 0; kind <= 2; kind++) {
            trains("codes", "1 " + kind + " ", " 0", new String[] {"1", "2", "3", "4"}, "0", "-1", "5", "6");
        }
        for (int codes = 1; codes <= 4; codes++) {
            Run.of("codes in the file", "sample 0 0 0 0; train 1 2 " + codes + " 0; save = 19; byteAt 4 = " + codes);
        }
    }

    /** "or rounds not 0 .. 8" */
    private static void roundsInRange() {
        for (int kind = 0; kind <= 2; kind++) {
            trains("rounds", "1 " + kind + " 1 ", "", new String[] {"0", "1", "7", "8"}, "-1", "-2", "9", "10");
        }
    }

    /** "A coordinate (0 .. 3) of the centre of a list" */
    private static void centresThatAreThere() {
        for (int lists = 1; lists <= 4; lists++) {
            Run run = new Run("centres of " + lists).go("sample 1 2 3 4; train " + lists + " 2 1 0");
            for (int list = 0; list < lists; list++) {
                run.go("centre " + list + " 0 = 1; centre " + list + " 3 = 4");
                run.go("centre " + list + " -1 = -1000; centre " + list + " 4 = -1000");
            }
            run.go("centre -1 0 = -1000; centre " + lists + " 0 = -1000; centre " + lists + " 3 = -1000");
        }
    }

    /** "ABSENT when not trained, or there is no such list or coordinate": of a centre */
    private static void centresThatAreNotThere() {
        Run run = new Run("centres").go("centre 0 0 = -1000; sample 1 2 3 4; centre 0 0 = -1000; load = 1; "
                + "centre 0 0 = -1000");
        run.go("train 5 2 1 0 = -3; centre 0 0 = -1000; train 1 2 1 0; centre 0 0 = 1");
        for (String v : FAR) {
            run.go("centre " + v + " 0 = -1000; centre 0 " + v + " = -1000; centre " + v + " " + v + " = -1000");
        }
    }

    private static void hasWords(int kind, int parts, int width) {
        for (int codes = 1; codes <= 4; codes++) {
            Run run = new Run(codes + " words").go("sample 1 2 3 4; train 4 " + kind + " " + codes + " 0");
            for (int part = 0; part < parts; part++) {
                String last = "word " + part + " " + (codes - 1);
                run.go("word " + part + " 0 0 = 0; " + last + " " + (width - 1) + " = 0");
                run.go(last + " " + width + " = -1000; " + last + " -1 = -1000");
                run.go("word " + part + " " + codes + " 0 = -1000; word " + part + " -1 0 = -1000");
            }
            run.go("word -1 0 0 = -1000; word " + parts + " 0 0 = -1000");
            for (String v : FAR) {
                run.go("word " + v + " 0 0 = -1000; word 0 " + v + " 0 = -1000; word 0 0 " + v + " = -1000");
            }
        }
    }

    /**
     * "A coordinate of a word of a part, counted from 0 within the part (0 or 1 for PRODUCT, 0 for SCALAR)": PRODUCT
     */
    private static void wordsOfProduct() {
        hasWords(0, 2, 2);
        Run.of("within the part", "sample 0 0 0 0; sample 1 2 3 4; train 1 0 2 0",
                "word 0 1 0 = 1; word 0 1 1 = 2; word 1 1 0 = 3; word 1 1 1 = 4; word 1 1 2 = -1000; "
                        + "word 1 1 3 = -1000");
    }

    /** "A coordinate of a word of a part, counted from 0 within the part (0 or 1 for PRODUCT, 0 for SCALAR)": SCALAR */
    private static void wordsOfScalar() {
        hasWords(1, 4, 1);
        Run.of("within the part", "sample 0 0 0 0; sample 1 2 3 4; train 1 1 2 0",
                "word 0 1 0 = 1; word 1 1 0 = 2; word 2 1 0 = 3; word 3 1 0 = 4; word 3 1 3 = -1000; "
                        + "word 4 1 0 = -1000");
    }

    /** "ABSENT when not trained, or there is no such part, word or coordinate": of a word */
    private static void wordsWhenNotTrained() {
        Run.of("words", "word 0 0 0 = -1000; sample 1 2 3 4; word 0 0 0 = -1000; train 1 1 0 0 = -3; "
                + "word 0 0 0 = -1000",
                "train 1 1 1 0; word 0 0 0 = 0");
    }
}
