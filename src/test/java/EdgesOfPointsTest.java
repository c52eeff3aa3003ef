/** The edges that the document names for points, distances, rounding and the turn; above each test is its sentence. */
final class EdgesOfPointsTest {
    private static final int[] INSIDE = {-100, -99, 0, 99, 100};
    /** Some of these come inside where a sum, a sign or a byte wraps around. */
    private static final int[] OUTSIDE = {-101, 101, -102, 102, 156, -156, 255, 256, -256, 65536, -65536,
        Integer.MIN_VALUE, Integer.MIN_VALUE + 50, Integer.MAX_VALUE, Integer.MAX_VALUE - 50};

    public static void main(String[] args) {
        numbersOfCoordinates();
        badSamples();
        badEntries();
        badSearches();
        greatestDistances();
        nearestCentre();
        nearestOfEqualCentres();
        nearestWord();
        nearestOfEqualWords();
        nearestForMembers();
        nearestForWhatIsLeft();
        roundedDown();
        firstTurn();
        numbersOfATurn();
        noTwoTheSame();
        turnedPoint();
        turnOfThatTime();
        keptAsGiven();
        Check.end();
    }

    /** "POINTS have four coordinates, numbered 0 to 3." */
    private static void numbersOfCoordinates() {
        Run.of("coordinates", "sample 11 12 13 14; train 1 2 1 0",
                "centre 0 -1 = -1000; centre 0 0 = 11; centre 0 1 = 12; centre 0 2 = 13; centre 0 3 = 14",
                "centre 0 4 = -1000");
    }

    /** "A point given to a call is BAD when one of its coordinates is not -100 .. 100.": sample */
    private static void badSamples() {
        for (int place = 0; place < 4; place++) {
            for (int v : INSIDE) {
                Run.of("good sample", "sample " + Run.only(place, v) + " = true", "train 1 2 1 0 = 0",
                        "centre 0 " + place + " = " + v);
            }
            for (int v : OUTSIDE) {
                Run.of("bad sample", "sample " + Run.only(place, v) + " = false", "train 1 2 1 0 = -1");
            }
        }
        Run.of("samples in the corners", "sample 100 100 100 100 = true; sample -100 -100 -100 -100 = true",
                "sample 101 101 101 101 = false; sample -101 -101 -101 -101 = false",
                "train 2 2 1 0 = 0; centres = 100,100,100,100 -100,-100,-100,-100");
    }

    /** "A point given to a call is BAD when one of its coordinates is not -100 .. 100.": add */
    private static void badEntries() {
        for (int place = 0; place < 4; place++) {
            for (int v : INSIDE) {
                Run.of("good entry", "sample 0 0 0 0; train 1 2 1 0", "add 7 " + Run.only(place, v) + " = 0",
                        "entries 0 = 1; save = 25; byteAt " + (20 + place) + " = " + (v + 100));
            }
            for (int v : OUTSIDE) {
                Run.of("bad entry", "sample 0 0 0 0; train 1 2 1 0", "add 7 " + Run.only(place, v) + " = -3",
                        "entries 0 = 0; listOf 7 = -1");
            }
        }
    }

    /** "A point given to a call is BAD when one of its coordinates is not -100 .. 100.": search */
    private static void badSearches() {
        for (int place = 0; place < 4; place++) {
            for (int v : INSIDE) {
                Run.of("search of a good point", "sample 0 0 0 0; train 1 2 1 0; add 7 0 0 0 0",
                        "search " + Run.only(place, v) + " 1 = 1; results = 7:" + v * v);
            }
            for (int v : OUTSIDE) {
                Run.of("search of a bad point", "sample 0 0 0 0; train 1 2 1 0; add 7 0 0 0 0",
                        "search " + Run.only(place, v) + " 1 = -2; results =");
            }
        }
    }

    /**
     * "The DISTANCE of two points, or of the same part of two points, is the sum of the squares of the differences of
     * their coordinates."
     */
    private static void greatestDistances() {
        Run.of("two corners", "sample 0 0 0 0; train 1 2 1 0; add 7 100 -100 100 -100",
                "search -100 100 -100 100 1 = 1; results = 7:160000");
        // one list at 300 and one word of 300 in each part: what is left of -100 is -400, and 700 from the word
        String far = "2 88 ".repeat(8);
        Run.of("parts of a far point", "file 86 1 0 1 1 1 5 6 7 8 " + far + "0 7 0 0 0 0 check; load = 0",
                "search -100 -100 -100 -100 1 = 1; results = 7:1960000");
        Run.of("coordinates of a far point", "file 86 1 1 1 1 1 5 6 7 8 " + far + "0 7 0 0 0 0 check; load = 0",
                "search -100 -100 -100 -100 1 = 1; results = 7:1960000");
    }

    /** "NEAREST is what has the least distance, of several the one with the least number.": the centre of an entry */
    private static void nearestCentre() {
        Run.of("nearest centre", "sample 0 0 0 0; sample 10 0 0 0; sample 0 10 0 0; train 3 2 1 0",
                "centres = 0,0,0,0 10,0,0,0 0,10,0,0",
                "add 1 5 5 0 0 = 0; add 2 6 6 0 0 = 1; add 3 5 6 0 0 = 2; add 4 4 0 0 0 = 0; add 5 5 0 0 0 = 0",
                "add 6 6 0 0 0 = 1; add 7 0 5 0 0 = 0; add 8 0 6 0 0 = 2; add 9 -6 5 0 0 = 0",
                "listOf 1 = 0; listOf 2 = 1; listOf 3 = 2");
    }

    private static void nearestOfEqualCentres() {
        Run.of("equal centres", "sample 7 7 7 7; train 4 2 1 0; centres = 7,7,7,7 7,7,7,7 7,7,7,7 7,7,7,7",
                "add 1 7 7 7 7 = 0; add 2 100 100 100 100 = 0; add 3 -100 0 0 0 = 0",
                "entries 0 = 3; entries 1 = 0; entries 2 = 0; entries 3 = 0");
    }

    /** "NEAREST is what has the least distance, of several the one with the least number.": the word of a code */
    private static void nearestWord() {
        Run.of("nearest word of a coordinate", Run.line(0, 4), "train 1 1 3 0 = 0",
                "words = 0 2 4 / 0 0 0 / 0 0 0 / 0 0 0",
                "add 1 -9 0 0 0; add 2 1 0 0 0; add 3 2 0 0 0; add 4 3 0 0 0; add 5 4 0 0 0; add 6 9 0 0 0",
                "codeOf 1 = 0; codeOf 2 = 0; codeOf 3 = 1; codeOf 4 = 1; codeOf 5 = 2; codeOf 6 = 2");
        Run.of("nearest word of a pair", "sample 0 0 0 0; sample 6 8 0 6; train 1 0 2 0 = 0",
                "words = 0,0 6,8 / 0,0 0,6",
                "add 1 3 4 0 0; add 2 3 5 0 0; add 3 7 1 0 0; add 4 0 0 0 3; add 5 0 0 0 4; add 6 100 100 100 100",
                "codeOf 1 = 0; codeOf 2 = 1; codeOf 3 = 0; codeOf 4 = 0; codeOf 5 = 2; codeOf 6 = 3");
    }

    private static void nearestOfEqualWords() {
        Run.of("equal words", "sample 7 7 7 7; train 1 0 4 0 = 0; words = 0,0 0,0 0,0 0,0 / 0,0 0,0 0,0 0,0",
                "add 1 100 -100 3 7 = 0; codeOf 1 = 0");
        Run.of("equal words of coordinates", "sample 7 7 7 7; train 1 1 4 0 = 0",
                "words = 0 0 0 0 / 0 0 0 0 / 0 0 0 0 / 0 0 0 0", "add 1 100 -100 3 7 = 0; codeOf 1 = 0");
    }

    /** "every item is a MEMBER of the centre that is nearest to it" */
    private static void nearestForMembers() {
        Run.of("a sample between two centres", Run.line(0, 10, 5), "train 2 2 1 1 = 0; centres = 2,0,0,0 10,0,0,0");
        Run.of("a sample past the middle", Run.line(0, 10, 6), "train 2 2 1 1 = 0; centres = 0,0,0,0 8,0,0,0");
    }

    /** "what is left of a point is that at its nearest centre" */
    private static void nearestForWhatIsLeft() {
        Run.of("left between two centres", Run.line(0, 10, 5), "train 2 1 2 0 = 0; words = 0 5 / 0 0 / 0 0 / 0 0");
        Run.of("left past the middle", Run.line(0, 10, 6), "train 2 1 2 0 = 0; words = -4 0 / 0 0 / 0 0 / 0 0");
    }

    /** "Rounded down" is towards minus infinity. */
    private static void roundedDown() {
        Run.of("mean of -1.5", Run.line(-1, -2), "train 1 2 1 1; centre 0 0 = -2");
        Run.of("mean of 1.5", Run.line(1, 2), "train 1 2 1 1; centre 0 0 = 1");
        Run.of("mean of -3", Run.line(-2, -4), "train 1 2 1 1; centre 0 0 = -3");
        Run.of("mean of a third less than 0", Run.line(0, 0, -1), "train 1 2 1 1; centre 0 0 = -1");
        Run.of("mean of two thirds less than 0", Run.line(0, -1, -1), "train 1 2 1 1; centre 0 0 = -1");
        Run.of("mean of two thirds", Run.line(0, 1, 1), "train 1 2 1 1; centre 0 0 = 0");
        Run.of("mean of each coordinate", "sample -1 1 -3 3; sample 0 0 0 0; train 1 2 1 1; centres = -1,0,-2,1");
        Run.of("words below 0", Run.line(0, -5), "train 1 1 4 0; words = -5 -4 -2 0 / 0 0 0 0 / 0 0 0 0 / 0 0 0 0");
        Run.of("words over 0", Run.line(0, 5), "train 1 1 4 0; words = 0 1 3 5 / 0 0 0 0 / 0 0 0 0 / 0 0 0 0");
        Run.of("words on either side", Run.line(0, 3, -2),
                "train 1 1 4 0; words = -2 -1 1 3 / 0 0 0 0 / 0 0 0 0 / 0 0 0 0");
    }

    /** "THE TURN is four numbers t0, t1, t2, t3, at first 1, 2, 3, 4" */
    private static void firstTurn() {
        Run.of("first turn", "sample 10 20 30 40; train 1 2 1 0; centres = 10,20,30,40",
                "save = 19; byteAt 6 = 5; byteAt 7 = 6; byteAt 8 = 7; byteAt 9 = 8");
    }

    /** "each is 1 .. 4 or -4 .. -1" */
    private static void numbersOfATurn() {
        int[] wrong = {0, 5, -5, 6, -6, 33, -33, 256, 257, 65537, Integer.MIN_VALUE, Integer.MIN_VALUE + 1,
            Integer.MAX_VALUE};
        for (int place = 0; place < 4; place++) {
            for (int v : new int[] {-4, -3, -2, -1, 1, 2, 3, 4}) {
                Run.of("number of a turn", "turn " + withOthers(place, v) + " = true");
            }
            for (int v : wrong) {
                Run.of("wrong number of a turn", "turn " + withOthers(place, v) + " = false");
            }
        }
    }

    /** v at a place, and at the others 1, 2, 3 and 4 without the absolute value of v. */
    private static String withOthers(int place, int v) {
        StringBuilder all = new StringBuilder();
        int next = 1;
        for (int k = 0; k < 4; k++) {
            next += k != place && next == Math.abs(v) ? 1 : 0;
            all.append(k == 0 ? "" : " ").append(k == place ? v : next);
            next += k == place ? 0 : 1;
        }
        return all.toString();
    }

    /** "no two have the same absolute value" */
    private static void noTwoTheSame() {
        for (int one = 0; one < 4; one++) {
            for (int other = 0; other < 4; other++) {
                for (int signs = 0; signs < 4 && one != other; signs++) {
                    int[] t = {1, 2, 3, 4};
                    t[one] = (signs & 1) == 0 ? other + 1 : -other - 1;
                    t[other] = (signs & 2) == 0 ? other + 1 : -other - 1;
                    Run.of("two of a turn", "turn " + t[0] + " " + t[1] + " " + t[2] + " " + t[3] + " = false");
                }
            }
        }
        Run.of("all of a turn", "turn 1 1 1 1 = false; turn 1 -1 1 -1 = false; turn 2 2 3 3 = false; "
                + "turn 0 0 0 0 = false");
    }

    /**
     * "Coordinate k of a TURNED point is coordinate |tk| - 1 of the point (counted from 0), negated when tk is
     * negative."
     */
    private static void turnedPoint() {
        Run.of("turned about", "turn 4 3 2 1; sample 10 20 30 40; train 1 2 1 0; centres = 40,30,20,10");
        Run.of("turned round", "turn 2 3 4 1; sample 10 20 30 40; train 1 2 1 0; centres = 20,30,40,10");
        Run.of("negated", "turn -1 -2 -3 -4; sample 100 -100 0 1; train 1 2 1 0; centres = -100,100,0,-1");
        Run.of("both", "turn 3 -1 4 -2; sample 10 20 30 40; train 1 2 1 0; centres = 30,-10,40,-20",
                "add 1 12 20 30 40; search 10 20 30 41 1 = 1; results = 1:5; effort 1 1",
                "search 10 20 30 41 1 = 1; results = 1:5");
    }

    /**
     * "wherever below a sample, the point of an entry or the point of a search is spoken of, it is turned by the turn
     * of that time."
     */
    private static void turnOfThatTime() {
        Run.of("turn after the sample", "sample 1 2 3 4; turn 4 3 2 1; train 1 2 1 0; centres = 4,3,2,1");
        Run.of("the latest of two turns", "turn 2 1 3 4; sample 1 2 3 4; turn -1 2 3 4; train 1 2 1 0; "
                + "centres = -1,2,3,4");
        Run.of("back to the first turn", "turn 2 1 3 4; sample 1 2 3 4; turn 1 2 3 4; train 1 2 1 0; "
                + "centres = 1,2,3,4");
        String lists = "1 44 1 44 1 44 1 44 1 64 1 44 1 44 1 44 ";
        Run.of("turn of a file", "sample 1 2 3 4; turn 4 3 2 1; train 1 2 1 0; centres = 4,3,2,1",
                "file 86 1 2 2 1 1 7 6 3 0 " + lists + "0 7 100 100 120 100 check; load = 0",
                "centres = 0,0,0,0 20,0,0,0; listOf 7 = 1; add 8 20 0 0 0 = 0; add 9 0 0 11 0 = 1",
                "search 0 0 18 0 1 = 1; results = 7:4; search 18 0 0 0 1 = 1; results = 8:4",
                "remove 7; remove 8; remove 9; train 1 2 1 0 = 0; centres = 3,2,-1,-4");
    }

    /** "Samples and entries are kept as they were given" */
    private static void keptAsGiven() {
        Run.of("entries in the file", "turn -4 3 -2 1; sample 0 0 0 0; train 1 2 1 0; add 7 5 -6 100 -100; save = 25",
                "byteAt 20 = 105; byteAt 21 = 94; byteAt 22 = 200; byteAt 23 = 0; load = 0; save = 25",
                "byteAt 20 = 105; byteAt 21 = 94; byteAt 22 = 200; byteAt 23 = 0");
        Run.of("samples under two turns", "turn -4 3 -2 1; sample 1 2 3 4; train 1 2 1 0; centres = -4,3,-2,1",
                "file 86 1 2 1 1 0 5 6 7 8 1 44 1 44 1 44 1 44 check; load = 0",
                "train 1 2 1 0; centres = 1,2,3,4");
    }
}
