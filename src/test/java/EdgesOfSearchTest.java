/** The edges that the document names for search and promises 12 to 16; above each test is its sentence. */
final class EdgesOfSearchTest {
    private static final String[] FAR = {"least", "greatest", "-2147483647", "256", "257", "-256", "65537"};
    /** Centres at 0, 30, 10 and 20, and an entry at each. */
    private static final String FOUR_LISTS = Run.line(0, 30, 10, 20) + "train 4 2 1 0; "
            + "add 50 0 0 0 0; add 51 30 0 0 0; add 52 10 0 0 0; add 53 20 0 0 0";

    public static void main(String[] args) {
        effortInRange();
        firstEffort();
        effortBeforeTraining();
        equalListsByNumber();
        asManyListsAsProbes();
        fewerListsThanProbes();
        emptyListsAreLookedThrough();
        noEntries();
        equalCodeDistancesById();
        atTheCentreOfTheEntrysList();
        flatDistances();
        kInRange();
        firstKOfTheEntries();
        fewerEntriesThanK();
        firstKTimesF();
        fewerEntriesThanKTimesF();
        equalDistancesById();
        takenByCodeBeforeDistance();
        notTrained();
        idsOfResults();
        distancesOfResults();
        resultsBeforeAndWithout();
        farByTheRefineOfThatSearch();
        resultsStay();
        fewerResultsThanBefore();
        scannedBeforeTheFirstSearch();
        scannedCountsEntriesLookedThrough();
        Check.end();
    }

    /**
     * Twenty entries whose code distances are all 0 and whose distances from 0 fall from 361 to 0 as their ids grow
     * from 1.
     */
    private static Run twentyEqual(String name) {
        Run run = new Run(name).go("sample 0 0 0 0; train 1 1 1 0");
        for (int id = 20; id >= 1; id--) {
            run.go("add " + id + " " + (20 - id) + " 0 0 0");
        }
        return run;
    }

    /** The results with the ids from first down to last, each at its distance. */
    private static String fromTo(int first, int last) {
        StringBuilder all = new StringBuilder();
        for (int id = first; id >= last; id--) {
            all.append(id == first ? "" : " ").append(id).append(":").append((20 - id) * (20 - id));
        }
        return all.toString();
    }

    /** "False when probes is not 1 .. 4 or refine not 0 .. 3." */
    private static void effortInRange() {
        for (int probes = -1; probes <= 6; probes++) {
            for (int refine = -2; refine <= 5; refine++) {
                boolean fits = probes >= 1 && probes <= 4 && refine >= 0 && refine <= 3;
                Run.of("effort", "effort " + probes + " " + refine + " = " + fits);
            }
        }
        for (String v : FAR) {
            Run.of("far effort", "effort " + v + " 0 = false; effort 1 " + v + " = false; "
                    + "effort " + v + " " + v + " = false");
        }
    }

    /** "At first PROBES is 1 and REFINE 0." */
    private static void firstEffort() {
        Run.of("first PROBES", FOUR_LISTS, "search 15 0 0 0 8 = 1; results = 52:25; scanned = 1");
        twentyEqual("first REFINE").go("search 0 0 0 0 2 = 2; results = 1:0 2:0");
    }

    /** "PROBES and REFINE become these: true.": also before a training, which leaves them. */
    private static void effortBeforeTraining() {
        Run.of("effort before", "effort 2 1 = true", FOUR_LISTS, "search 15 0 0 0 8 = 2; scanned = 2; remove 50; "
                + "remove 51",
                "remove 52; remove 53; train 4 1 1 0 = 0; add 9 8 0 0 0 = 2; add 8 22 0 0 0 = 3",
                "search 15 0 0 0 8 = 2; results = 8:49 9:49");
    }

    /** "the lists are put in the order of the distance of their centres to q, equal ones by their number" */
    private static void equalListsByNumber() {
        // from 15 the lists 2 and 3 are 25 away, 0 and 1 are 225 away; from 20 the order is 3, 1 and 2, 0
        Run.of("order of lists", FOUR_LISTS, "search 15 0 0 0 8 = 1; results = 52:25",
                "effort 2 0; search 15 0 0 0 8 = 2; results = 52:25 53:25",
                "effort 3 0; search 15 0 0 0 8 = 3; results = 52:25 53:25 50:225",
                "effort 4 0; search 15 0 0 0 8 = 4; results = 52:25 53:25 50:225 51:225",
                "effort 1 0; search 20 0 0 0 8 = 1; results = 53:0",
                "effort 2 0; search 20 0 0 0 8 = 2; results = 53:0 51:100",
                "effort 3 0; search 20 0 0 0 8 = 3; results = 53:0 51:100 52:100");
        Run.of("equal centres", "sample 0 0 0 0; train 4 2 1 0; add 1 5 0 0 0 = 0; search 9 9 9 9 1 = 1; scanned = 1");
        Run.of("equal centres of a file", "file 86 1 2 2 1 0 5 6 7 8 " + "1 44 ".repeat(8) + "check; load",
                "add 1 0 0 0 0 = 0; search 0 0 0 0 1 = 1; results = 1:0");
    }

    /** "as many of them as PROBES says, from the first on" */
    private static void asManyListsAsProbes() {
        for (int probes = 1; probes <= 4; probes++) {
            Run.of(probes + " probes", FOUR_LISTS, "effort " + probes + " 0; search -100 0 0 0 8 = " + probes + "; "
                    + "scanned = " + probes,
                    "search 100 0 0 0 8 = " + probes + "; hit 0 = 51");
        }
    }

    /** "(all, when there are not so many)": lists */
    private static void fewerListsThanProbes() {
        for (int lists = 1; lists <= 4; lists++) {
            Run run = new Run(lists + " lists").go(Run.line(0, 30, 10, 20), "train " + lists + " 2 1 0");
            run.go("add 50 0 0 0 0; add 51 30 0 0 0; add 52 10 0 0 0; add 53 20 0 0 0; effort 4 0");
            run.go("search 0 0 0 0 8 = 4; results = 50:0 52:100 53:400 51:900; scanned = 4");
        }
    }

    /** "are looked through": a list without entries is one of as many as PROBES says. */
    private static void emptyListsAreLookedThrough() {
        Run.of("empty lists", FOUR_LISTS, "remove 52; search 11 0 0 0 8 = 0; results =; scanned = 0",
                "effort 2 0; search 11 0 0 0 8 = 1; results = 53:81; remove 53; search 11 0 0 0 8 = 0; scanned = 0",
                "effort 3 0; search 11 0 0 0 8 = 1; results = 50:121");
    }

    private static void noEntries() {
        for (int kind = 0; kind <= 2; kind++) {
            Run.of("no entries", Run.line(0, 30), "train 2 " + kind + " 2 1; search 0 0 0 0 1 = 0; "
                    + "search 0 0 0 0 8 = 0; scanned = 0",
                    "effort 4 3; search 0 0 0 0 8 = 0; hit 0 = -1; far 0 = -1; scanned = 0");
        }
    }

    /** "in the order of their code distance, equal ones by id" */
    private static void equalCodeDistancesById() {
        Run.of("equal code distances", Run.line(0, 10), "train 2 2 1 0; effort 2 0; add 9 4 0 0 0; add 0 6 0 0 0; "
                + "add 999 5 1 0 0",
                "add 5 5 -1 0 0; add 4 7 0 0 0; search 5 0 0 0 8 = 5; results = 0:1 5:1 9:1 999:1 4:4",
                "search 5 0 0 0 3 = 3; results = 0:1 5:1 9:1; remove 5; search 5 0 0 0 3 = 3; results = 0:1 9:1 999:1");
        twentyEqual("equal codes").go("search 0 0 0 0 8 = 8; results = 1:0 2:0 3:0 4:0 5:0 6:0 7:0 8:0");
    }

    /**
     * "the distance between that part of what is left of q at the centre of the entry's list and the word of the
     * entry's code"
     */
    private static void atTheCentreOfTheEntrysList() {
        // one word 0: what is left of 2 is 2 at the centre 0 of entry 1, and -8 at the centre 10 of entry 2
        for (int kind = 0; kind <= 1; kind++) {
            Run.of("two lists", Run.line(0, 10), "train 2 " + kind + " 1 0; effort 2 0; add 1 1 0 0 0 = 0; "
                    + "add 2 9 0 0 0 = 1",
                    "search 2 0 0 0 2 = 2; results = 1:4 2:64; search 5 0 0 0 2 = 2; results = 1:25 2:25");
        }
    }

    /** "for FLAT it is the distance between q and the entry's point" */
    private static void flatDistances() {
        Run.of("flat", Run.line(50), "train 1 2 4 0; add 1 -100 100 -100 100; add 2 3 4 0 0",
                "search 100 -100 100 -100 2 = 2; far 1 = 160000; search 0 0 0 0 1 = 1; results = 2:25");
    }

    /** "-3 when k is not 1 .. 8" */
    private static void kInRange() {
        Run run = twentyEqual("k");
        for (int k = 1; k <= 8; k++) {
            run.go("search 0 0 0 0 " + k + " = " + k + "; hit " + (k - 1) + " = " + k + "; hit " + k + " = -1");
        }
        run.go("search 0 0 0 0 0 = -3; search 0 0 0 0 -1 = -3; search 0 0 0 0 9 = -3; search 0 0 0 0 10 = -3");
        for (String k : FAR) {
            run.go("search 0 0 0 0 " + k + " = -3");
        }
    }

    /** "When REFINE is 0, the results are the first k of the entries looked through" */
    private static void firstKOfTheEntries() {
        Run.of("first k", FOUR_LISTS, "effort 4 0; search 0 0 0 0 1 = 1; results = 50:0; scanned = 4",
                "search 0 0 0 0 3 = 3; results = 50:0 52:100 53:400; search 0 0 0 0 4 = 4; "
                        + "results = 50:0 52:100 53:400 51:900");
    }

    /** "(All, when there are not so many.)": k */
    private static void fewerEntriesThanK() {
        Run.of("fewer than k", FOUR_LISTS, "effort 4 0; search 0 0 0 0 5 = 4; search 0 0 0 0 8 = 4; hit 3 = 51; "
                + "hit 4 = -1",
                "effort 4 1; search 0 0 0 0 8 = 4; hit 3 = 51; hit 4 = -1; effort 1 0; search 0 0 0 0 2 = 1; "
                        + "results = 50:0");
    }

    /** "When REFINE is f > 0, the first k * f in that order are taken" */
    private static void firstKTimesF() {
        twentyEqual("k times 1").go("effort 1 1; search 0 0 0 0 1 = 1; results = " + fromTo(1, 1),
                "search 0 0 0 0 2 = 2; results = " + fromTo(2, 1), "search 0 0 0 0 8 = 8; results = " + fromTo(8, 1));
        twentyEqual("k times 2").go("effort 1 2; search 0 0 0 0 1 = 1; results = " + fromTo(2, 2),
                "search 0 0 0 0 2 = 2; results = " + fromTo(4, 3), "search 0 0 0 0 8 = 8; results = " + fromTo(16, 9));
        twentyEqual("k times 3").go("effort 1 3; search 0 0 0 0 1 = 1; results = " + fromTo(3, 3),
                "search 0 0 0 0 2 = 2; results = " + fromTo(6, 5), "search 0 0 0 0 6 = 6; results = " + fromTo(18, 13));
    }

    /** "(All, when there are not so many.)": k * f */
    private static void fewerEntriesThanKTimesF() {
        twentyEqual("21 of 20").go("effort 1 3; search 0 0 0 0 7 = 7; results = " + fromTo(20, 14), "scanned = 20");
        twentyEqual("24 of 20").go("effort 1 3; search 0 0 0 0 8 = 8; results = " + fromTo(20, 13), "scanned = 20");
        Run.of("3 of 2", "sample 0 0 0 0; train 1 1 1 0; add 1 2 0 0 0; add 2 1 0 0 0; effort 1 3",
                "search 0 0 0 0 1 = 1; results = 2:1; search 0 0 0 0 8 = 2; results = 2:1 1:4");
    }

    /** "put in the order of the distance between q and their points, equal ones by id" */
    private static void equalDistancesById() {
        Run.of("equal distances", "sample 0 0 0 0; train 1 1 1 0; effort 1 3; add 9 0 0 0 5; add 3 3 4 0 0; "
                + "add 6 -5 0 0 0",
                "add 4 0 0 1 0; search 0 0 0 0 8 = 4; results = 4:1 3:25 6:25 9:25; search 0 0 0 0 2 = 2; "
                        + "results = 4:1 3:25");
        // the code distances put 9 (word 0) before 3 (word 10), the distances are equal
        Run.of("another order before", Run.line(0, 10), "train 1 1 2 0; effort 1 1; add 9 0 0 0 6; add 3 6 0 0 0",
                "effort 1 0; search 0 0 0 0 2 = 2; results = 9:0 3:100; effort 1 1; search 0 0 0 0 2 = 2; "
                        + "results = 3:36 9:36");
    }

    /** "the first k * f in that order are taken": an entry that is nearer, but not among them, is no result. */
    private static void takenByCodeBeforeDistance() {
        Run.of("taken by code", Run.line(0, 10), "train 1 1 2 0; add 1 -40 0 0 0; add 2 6 0 0 0",
                "effort 1 1; search 0 0 0 0 1 = 1; results = 1:1600; effort 1 2; search 0 0 0 0 1 = 1; results = 2:36");
    }

    /** "-1 when not trained" */
    private static void notTrained() {
        Run.of("not trained", "search 0 0 0 0 1 = -1; sample 0 0 0 0; search 0 0 0 0 1 = -1; train 1 2 1 0; "
                + "search 0 0 0 0 1 = 0");
        Run.of("loaded", "file 86 1 2 1 1 0 5 6 7 8 1 44 1 44 1 44 1 44 check; search 0 0 0 0 1 = -1; load; "
                + "search 0 0 0 0 1 = 0");
    }

    /** "The id of result r of the latest search, counted from 0; NONE when there is no such result." */
    private static void idsOfResults() {
        Run run = twentyEqual("ids of results").go("effort 1 3; search 0 0 0 0 8 = 8; hit 0 = 20; hit 7 = 13");
        run.go("hit 8 = -1; hit 9 = -1; hit -1 = -1; hit 19 = -1; hit 20 = -1; hit 24 = -1");
        for (String r : FAR) {
            run.go("hit " + r + " = -1");
        }
        run.go("search 0 0 0 0 1 = 1; hit 0 = 3; hit 1 = -1; hit -1 = -1");
    }

    /** "NONE when there is no such result": far */
    private static void distancesOfResults() {
        Run run = twentyEqual("distances of results").go("effort 1 3; search 0 0 0 0 8 = 8; far 0 = 0; far 7 = 49");
        run.go("far 8 = -1; far 9 = -1; far -1 = -1; far 19 = -1; far 20 = -1; far 24 = -1");
        for (String r : FAR) {
            run.go("far " + r + " = -1");
        }
        run.go("search 0 0 0 0 1 = 1; far 0 = 289; far 1 = -1; far -1 = -1");
    }

    private static void resultsBeforeAndWithout() {
        Run.of("before a search", "hit 0 = -1; far 0 = -1", FOUR_LISTS, "hit 0 = -1; far 0 = -1; "
                + "search 0 0 0 0 0 = -3; hit 0 = -1");
        Run.of("id 0 and distance 0", "sample 0 0 0 0; train 1 2 1 0; add 0 0 0 0 0; search 0 0 0 0 1 = 1; hit 0 = 0; "
                + "far 0 = 0; hit 1 = -1");
    }

    /** "its code distance when REFINE was 0 in that search, otherwise the distance of its point" */
    private static void farByTheRefineOfThatSearch() {
        twentyEqual("far").go("search 0 0 0 0 1 = 1; effort 1 1; hit 0 = 1; far 0 = 0; search 0 0 0 0 1 = 1; "
                + "effort 1 0; hit 0 = 1",
                "far 0 = 361; search 0 0 0 0 1 = 1; far 0 = 0");
    }

    /** "Results stay as they are until the next search that is not refused." */
    private static void resultsStay() {
        String[] calls = {"effort 2 0; search 15 0 0 0 8 = 2", "remove 52", "add 52 15 0 0 0", "effort 4 3",
            "sample 1 1 1 1", "save", "alter 0 86", "load = 0", "cut 3", "load = 1",
            "remove 50; remove 51; remove 52; remove 53", "train 1 1 1 0", "search 101 0 0 0 1 = -2",
            "search 0 0 0 0 0 = -3", "search 0 0 0 0 9 = -3", "turn 2 1 3 4 = false"};
        Run run = new Run("results stay").go(FOUR_LISTS);
        for (String call : calls) {
            run.go(call, "results = 52:25 53:25; scanned = 2");
        }
        run.go("search 0 0 0 0 1 = 0; results =; scanned = 0");
    }

    /** "of the latest search": none is left of the results of the one before it. */
    private static void fewerResultsThanBefore() {
        twentyEqual("fewer results").go("search 0 0 0 0 8 = 8; search 0 0 0 0 3 = 3; hit 2 = 3; hit 3 = -1; "
                + "far 3 = -1; hit 7 = -1");
    }

    /** "0 before the first search" */
    private static void scannedBeforeTheFirstSearch() {
        Run.of("scanned", "scanned = 0; search 0 0 0 0 1 = -1; scanned = 0", FOUR_LISTS, "scanned = 0; "
                + "search 101 0 0 0 1 = -2; scanned = 0",
                "search 0 0 0 0 9 = -3; scanned = 0; search 0 0 0 0 1 = 1; scanned = 1");
    }

    /** "How many entries the latest search looked through" */
    private static void scannedCountsEntriesLookedThrough() {
        twentyEqual("scanned").go("search 0 0 0 0 1 = 1; scanned = 20; effort 1 1; search 0 0 0 0 1 = 1; scanned = 20",
                "effort 1 3; search 0 0 0 0 2 = 2; scanned = 20; search 0 0 0 0 9 = -3; scanned = 20; remove 1; "
                        + "scanned = 20",
                "search 0 0 0 0 2 = 2; scanned = 19");
    }
}
