import java.util.Arrays;

/**
 * The edges that the document names for clustering, seen in the centres of a FLAT index; above each test is its
 * sentence.
 */
final class EdgesOfClusteringTest {
    /**
     * Sorted: -97 -86 -81 -64 -42 -28 -23 -16 -13 -6 -5 -1 12 12 31 34 44 60 62 63 71 95 99. To two centres, every
     * round takes one item more to centre 1, so that no two numbers of rounds up to 9 give the same.
     */
    private static final int[] SLOW = {12, 63, 95, 12, 44, -64, 99, -13, 60, -97, 31, -81, -28, -5, -6, -86, 62, -23,
        -42, -1, 71, 34, -16};
    private static final int[][] SLOW_CENTRES = {{12, -97}, {23, -82}, {27, -74}, {30, -67}, {33, -61}, {37, -55},
        {40, -50}, {44, -46}, {48, -42}};

    public static void main(String[] args) {
        oneItem();
        firstCentre();
        farthestItem();
        firstOfSeveralFarthest();
        moreCentresThanItems();
        rounds();
        roundsOfWords();
        meanOfEachCoordinate();
        withoutMembers();
        fromTheLeastNumberUp();
        leastNumberOfEqualShares();
        whatItIsAtThatTime();
        firstCoordinateOfAPart();
        halfRoundedDown();
        emptyAfterSomeRounds();
        overTheRangeOfPoints();
        Check.end();
    }

    private static void clusters(String name, int lists, int rounds, String centres, int... samples) {
        Run.of(name, Run.line(samples), "train " + lists + " 2 1 " + rounds + " = 0; centres = " + onLine(centres));
    }

    /** "1 2" becomes "1,0,0,0 2,0,0,0". */
    private static String onLine(String values) {
        return values.replaceAll("(-?[0-9]+)", "$1,0,0,0");
    }

    private static int[] times(int value, int times) {
        int[] all = new int[times];
        Arrays.fill(all, value);
        return all;
    }

    private static int[] join(int[] one, int[] other) {
        int[] all = Arrays.copyOf(one, one.length + other.length);
        System.arraycopy(other, 0, all, one.length, other.length);
        return all;
    }

    /**
     * "CLUSTERING some items (points or parts of points, at least one, in an order) to c centres 0 .. c - 1 in r
     * rounds"
     */
    private static void oneItem() {
        for (int rounds = 0; rounds <= 8; rounds += 4) {
            clusters("one item to one centre", 1, rounds, "-7", -7);
        }
        Run.of("no item", "train 1 2 1 0 = -1; train 1 2 1 8 = -1");
    }

    /** "centre 0 is the first item" */
    private static void firstCentre() {
        clusters("the first of three", 1, 0, "5", 5, -100, 100);
        clusters("the first of three, others before", 1, 0, "-100", -100, 5, 100);
        clusters("the first of two to two", 2, 0, "100 -100", 100, -100);
    }

    /** "each further centre is the item whose distance to the nearest of the centres before it is the greatest" */
    private static void farthestItem() {
        // the nearest to 60 is 1600 from it, to 50 it is 2500; the sums of the distances are 5200 and 5000
        clusters("by the nearest centre", 3, 0, "0 100 50", 0, 100, 60, 50);
        clusters("all four", 4, 0, "0 100 50 60", 0, 100, 60, 50);
    }

    /** "of several the first" */
    private static void firstOfSeveralFarthest() {
        clusters("-7 before 7", 2, 0, "0 -7", 0, -7, 7, 3);
        clusters("7 before -7", 2, 0, "0 7", 0, 7, -7, 3);
        clusters("the other one next", 3, 0, "0 -7 7", 0, -7, 7, 3);
        clusters("the rest", 4, 0, "0 -7 7 3", 0, -7, 7, 3);
    }

    /** "of several the first": where no item is farther than 0, it is the first item of all. */
    private static void moreCentresThanItems() {
        clusters("one item to four", 4, 0, "5 5 5 5", 5);
        clusters("two items to four", 4, 0, "5 9 5 5", 5, 9);
        clusters("two different items to four", 4, 0, "9 5 9 9", 9, 9, 5);
        clusters("24 equal items to four", 4, 0, "3 3 3 3", times(3, 24));
    }

    /** "Then, r times over": from no round to the most. */
    private static void rounds() {
        for (int r = 0; r <= 8; r++) {
            clusters(r + " rounds", 2, r, SLOW_CENTRES[r][0] + " " + SLOW_CENTRES[r][1], SLOW);
        }
        Run.of("9 rounds", Run.line(SLOW), "train 2 2 1 9 = -3; train 2 2 1 -1 = -3; centres =");
    }

    /**
     * "is clustered in the same number of rounds": the one centre is 12 before and 5, the mean, after the first round.
     */
    private static void roundsOfWords() {
        for (int r = 0; r <= 8; r++) {
            int centre = r == 0 ? 12 : 5;
            Run.of(r + " rounds for words", Run.line(SLOW), "train 1 0 2 " + r, "centres = " + centre + ",0,0,0",
                    "word 0 0 0 = " + (SLOW_CENTRES[r][0] - centre) + "; "
                            + "word 0 1 0 = " + (SLOW_CENTRES[r][1] - centre));
        }
    }

    /** "every centre with members becomes the mean of its members, coordinate by coordinate, rounded down" */
    private static void meanOfEachCoordinate() {
        Run.of("means", "sample 1 -1 10 -10; sample 2 -2 11 -12; sample -100 100 0 0; train 2 2 1 1",
                "centres = 1,-2,10,-11 -100,100,0,0");
        // in the second round the centre at -1 keeps one of its two members, -2, and moves to it
        clusters("two members", 2, 1, "3 -1", 5, 2, 1, -2);
        clusters("one member", 2, 2, "2 -2", 5, 2, 1, -2);
        Run.of("24 members", Run.line(times(0, 23)) + Run.line(24), "train 1 2 1 1; centres = 1,0,0,0");
        Run.of("24 members, a little less", Run.line(times(0, 23)) + Run.line(23), "train 1 2 1 1; centres = 0,0,0,0");
        Run.of("24 members below 0", Run.line(times(0, 23)) + Run.line(-1), "train 1 2 1 1; centres = -1,0,0,0");
    }

    /** "then the SHARE of each centre is the number of its members" */
    private static void withoutMembers() {
        // shares 3 2 0 0; 2 2 1 0; centre 0 is the one with the least number
        clusters("shares 3 and 2", 4, 1, "0 10 1 1", 0, 0, 0, 10, 10);
        // shares 2 3 0 0; 2 2 1 0
        clusters("shares 2 and 3", 4, 1, "0 10 11 1", 0, 0, 10, 10, 10);
        // shares 1 5 0 0; 1 3 2 0; 1 2 2 1
        clusters("shares 1 and 5", 4, 1, "0 10 11 11", 0, 10, 10, 10, 10, 10);
    }

    /** "and for every centre e without members, from the least number up" */
    private static void fromTheLeastNumberUp() {
        // shares 4 0 0 0; 2 2 0 0; 1 2 1 0; 1 1 1 1
        // from the greatest number down centre 1 would be the last and come from centre 3, at 9
        clusters("from 1 to 3", 4, 1, "7 8 8 9", times(7, 4));
        clusters("with a centre behind them", 4, 1, "0 10 1 11", 0, 0, 0, 10, 10, 10);
    }

    /** "let b be the centre with the greatest share, of several the one with the least number" */
    private static void leastNumberOfEqualShares() {
        clusters("shares 3 3", 3, 1, "0 10 1", 0, 0, 0, 10, 10, 10);
        clusters("shares 3 4", 3, 1, "0 10 11", 0, 0, 0, 10, 10, 10, 10);
        clusters("shares 1 1 1", 4, 1, "0 10 5 1", 0, 10, 5);
    }

    /** "e becomes what b is at that time, with 1 added to its first coordinate" */
    private static void whatItIsAtThatTime() {
        // shares 6 0 0 0; 3 3 0 0; 2 3 1 0: centre 1, filled before, is 8 at that time
        clusters("a centre that was filled", 4, 1, "7 8 8 9", times(7, 6));
        // in the third round all items are members of centre 0, which moves from 0,0 to -1,0 first;
        // then centre 1 becomes 0,0
        String five = "sample 1 1 0 0; sample -1 0 0 0; sample 0 0 0 0; sample 0 -1 0 0; sample -1 0 0 0";
        Run.of("two rounds", five, "train 2 2 1 2; centres = 0,0,0,0 -1,-1,0,0");
        Run.of("the mean of this round", five, "train 2 2 1 3; centres = -1,0,0,0 0,0,0,0");
        Run.of("the other coordinates", "sample 3 -4 5 -6; train 2 2 1 1; centres = 3,-4,5,-6 4,-4,5,-6");
        Run.of("after two rounds", "sample 3 -4 5 -6; train 2 2 1 2; centres = 3,-4,5,-6 4,-4,5,-6");
    }

    /** "with 1 added to its first coordinate": of a part it is the first one of that part. */
    private static void firstCoordinateOfAPart() {
        Run.of("words without members", "sample 3 -4 5 -6; train 1 0 3 1 = 0; words = 0,0 1,0 1,0 / 0,0 1,0 1,0");
    }

    /** "the share of e becomes half of the share of b, rounded down, and the share of b what remains of it." */
    private static void halfRoundedDown() {
        // 1: 1 0, and centre 0 keeps the greatest share
        clusters("share 1", 4, 1, "7 8 8 8", 7);
        // 2: 1 1, 1 1 0
        clusters("share 2", 4, 1, "7 8 8 8", times(7, 2));
        // 3: 2 1, 1 1 1
        clusters("share 3", 4, 1, "7 8 8 8", times(7, 3));
        // 5: 3 2, 2 2 1; rounded up it would be 2 3, 2 1 2 with centre 2 at 9
        clusters("share 5", 4, 1, "7 8 8 8", times(7, 5));
        // 7: 4 3, 2 3 2
        clusters("share 7", 4, 1, "7 8 8 9", times(7, 7));
        // 24: 12 12, 6 12 6
        clusters("share 24", 4, 1, "7 8 8 9", times(7, 24));
        clusters("share 24 after 8 rounds", 4, 8, "7 8 8 9", times(7, 24));
        // 5 and 2: 3 2 2, 2 2 2 1
        clusters("shares 5 and 2", 4, 1, "7 90 8 8", join(times(7, 5), times(90, 2)));
        // 5 and 3: 3 3 2, and centre 0 has the least number; rounded up it would be 2 3 3 and centre 1
        clusters("shares 5 and 3", 4, 1, "7 90 8 8", join(times(7, 5), times(90, 3)));
        // 4 and 3: 2 3 2, and what remains of 4 is less than 3
        clusters("shares 4 and 3", 4, 1, "7 90 8 91", join(times(7, 4), times(90, 3)));
    }

    /**
     * "for every centre e without members": rounding down has moved centre 0 away from all items by the third round.
     */
    private static void emptyAfterSomeRounds() {
        String six = "sample 1 0 -1 0; sample 1 0 0 0; sample -1 0 0 -1; sample 0 1 1 1; sample 1 0 1 1; "
                + "sample 0 -1 0 0";
        Run.of("first round", six, "train 2 2 1 1; centres = 0,-1,-1,-1 0,0,1,1");
        Run.of("second round", six, "train 2 2 1 2; centres = 0,-1,-1,-1 0,0,0,0");
        Run.of("third round", six, "train 2 2 1 3; centres = 1,0,0,0 0,0,0,0");
        Run.of("fourth round", six, "train 2 2 1 4; centres = 1,0,0,0 -1,0,0,0");
    }

    /**
     * "with 1 added to its first coordinate": a centre may lie outside the range of points, and be saved and loaded.
     */
    private static void overTheRangeOfPoints() {
        Run.of("centres over 100", Run.line(times(100, 4)), "train 4 2 1 8 = 0; centres = " + onLine("100 101 101 102"),
                "add 1 100 0 0 0 = 0; search 100 0 0 0 1 = 1; save = 49; load = 0; "
                        + "centres = " + onLine("100 101 101 102"));
    }
}
