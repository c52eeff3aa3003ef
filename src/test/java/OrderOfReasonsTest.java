import java.util.StringJoiner;

/**
 * "Where several reasons are named for a call, they are tested in the order in which they stand there."
 *
 * Every two reasons of one call that can hold at once, for the calls whose answer tells the reason.
 */
final class OrderOfReasonsTest {
    private static final String ONE_LIST = "86 1 2 1 1 ";
    private static final String CENTRE = "5 6 7 8 1 44 1 44 1 44 1 44 ";
    /** A well-formed file without its CHECK: PRODUCT, one list, one word a part, two entries. */
    private static final int[] GOOD = {86, 1, 0, 1, 1, 2, 5, 6, 7, 8, 1, 44, 1, 44, 1, 44, 1, 44,
        1, 44, 1, 44, 1, 44, 1, 44, 0, 3, 100, 100, 100, 100, 0, 4, 100, 100, 100, 100};

    public static void main(String[] args) {
        train();
        addWhenNotTrained();
        addWrongIds();
        addBadPoints();
        addToTwenty();
        search();
        loadOfTenBytes();
        loadWithTwoFaults();
        loadWithSizesAndAnotherFault();
        loadWithAllFaults();
        Check.end();
    }

    /** "-1 when there is no sample; -2 when there are entries; -3 when lists is not 1 .. 4" and so on */
    private static void train() {
        String loaded = "file " + ONE_LIST + "1 " + CENTRE + "0 7 100 100 100 100 check; load = 0; ";
        Run.of("no sample, wrong numbers", "train 0 0 1 0 = -1; train 1 3 1 0 = -1; train 1 0 0 0 = -1; "
                + "train 1 0 1 9 = -1");
        Run.of("no sample, entries", loaded + "train 1 0 1 0 = -1");
        Run.of("no sample, entries, wrong numbers", loaded + "train 5 -1 5 -1 = -1");
        Run.of("entries, wrong numbers", loaded + "sample 0 0 0 0; train 0 0 1 0 = -2; train 5 0 1 0 = -2; "
                + "train 1 -1 1 0 = -2",
                "train 1 3 1 0 = -2; train 1 0 0 0 = -2; train 1 0 5 0 = -2; train 1 0 1 -1 = -2; train 1 0 1 9 = -2; "
                        + "remove 7",
                "train 0 0 1 0 = -3; train 1 0 1 9 = -3; train 1 0 1 0 = 0");
    }

    /** "-1 when not trained" before "-2 when id is not 0 .. 999" and "-3 when the point is BAD" */
    private static void addWhenNotTrained() {
        Run.of("not trained", "sample 0 0 0 0; add -1 0 0 0 0 = -1; add 1000 0 0 0 0 = -1; add 1 101 0 0 0 = -1; "
                + "add -1 0 0 0 101 = -1");
    }

    /** "-2 when id is not 0 .. 999" before "-3 when the point is BAD" */
    private static void addWrongIds() {
        Run.of("wrong id and bad point", "sample 0 0 0 0; train 1 2 1 0; add -1 101 0 0 0 = -2; "
                + "add 1000 0 0 0 -101 = -2; add 999 101 0 0 0 = -3");
    }

    /** "-3 when the point is BAD" before "-4 when there is an entry with that id" */
    private static void addBadPoints() {
        Run.of("bad point of an id that is there", "sample 0 0 0 0; train 1 2 1 0; add 5 0 0 0 0; "
                + "add 5 101 0 0 0 = -3; add 5 0 0 0 -101 = -3",
                "add 5 100 0 0 0 = -4");
    }

    /** Each of the others before "-5 when there are 20 entries" */
    private static void addToTwenty() {
        Run run = new Run("20 entries").go("sample 0 0 0 0; train 1 2 1 0");
        for (int id = 0; id < 20; id++) {
            run.go("add " + id + " 0 0 0 0");
        }
        run.go("add -1 0 0 0 0 = -2; add 1000 0 0 0 0 = -2; add -1 101 0 0 0 = -2; add 20 101 0 0 0 = -3; "
                + "add 19 101 0 0 0 = -3");
        run.go("add 19 0 0 0 0 = -4; add 0 0 0 0 0 = -4; add 20 0 0 0 0 = -5");
    }

    /** "-1 when not trained; -2 when the point is BAD; -3 when k is not 1 .. 8" */
    private static void search() {
        Run.of("not trained", "search 101 0 0 0 1 = -1; search 0 0 0 0 0 = -1; search 0 0 0 0 9 = -1; "
                + "search 101 0 0 0 9 = -1");
        Run.of("bad point and wrong k", "sample 0 0 0 0; train 1 2 1 0; search 101 0 0 0 0 = -2; "
                + "search 0 0 0 -101 9 = -2",
                "search 100 0 0 0 0 = -3; search 0 0 0 -100 9 = -3");
    }

    /** GOOD with some of the faults 2 to 9. */
    private static String fileWith(int... faults) {
        int[] bytes = GOOD.clone();
        boolean longer = false;
        boolean wrongCheck = false;
        for (int fault : faults) {
            switch (fault) {
                case 2 -> bytes[0] = 85;
                case 3 -> bytes[1] = 2;
                case 4 -> bytes[2] = 3;
                case 5 -> bytes[8] = 4;
                case 6 -> longer = true;
                case 7 -> wrongCheck = true;
                case 8 -> bytes[16] = 3;
                default -> bytes[37] = 201;
            }
        }
        return text(bytes) + (longer ? "7 " : "") + (wrongCheck ? "251" : "check");
    }

    private static String text(int... bytes) {
        StringJoiner all = new StringJoiner(" ", "file ", " ");
        for (int b : bytes) {
            all.add(String.valueOf(b));
        }
        return all.toString();
    }

    /** "1 the file has fewer than 11 bytes" before what the first ten bytes can have */
    private static void loadOfTenBytes() {
        for (int fault = 2; fault <= 5; fault++) {
            Run.of("fault 1 and " + fault, fileWith(fault), "cut 10; load = 1; alter 10 1; load = " + fault);
        }
    }

    private static void loadWithTwoFaults() {
        Run.of("no fault", fileWith(), "load = 0");
        for (int one = 2; one <= 9; one++) {
            Run.of("fault " + one, fileWith(one), "load = " + one);
            for (int other = one + 1; other <= 9; other++) {
                Run.of("faults " + one + " and " + other, fileWith(one, other), "load = " + one);
            }
        }
    }

    /** "4 kind, lists, codes or n is not in its range": each of them before the turn and the length */
    private static void loadWithSizesAndAnotherFault() {
        int[][] wrong = {{2, 3}, {2, 255}, {3, 0}, {3, 5}, {3, 255}, {4, 0}, {4, 5}, {4, 255}, {5, 21}, {5, 255}};
        for (int[] size : wrong) {
            int[] bytes = GOOD.clone();
            bytes[size[0]] = size[1];
            Run.of("size and length", text(bytes) + "7 check", "load = 4");
            bytes[6] = 4;
            Run.of("size and turn", text(bytes) + "check", "load = 4");
            bytes[1] = 0;
            Run.of("size and byte 1", text(bytes) + "check", "load = 3");
        }
    }

    /** A file with all faults, which are mended one by one. */
    private static void loadWithAllFaults() {
        for (int first = 2; first <= 9; first++) {
            int[] faults = new int[10 - first];
            for (int i = 0; i < faults.length; i++) {
                faults[i] = first + i;
            }
            Run.of("all faults from " + first, fileWith(faults), "load = " + first);
        }
    }
}
