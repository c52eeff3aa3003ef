import java.util.List;

/**
 * "A call that is refused changes nothing."
 *
 * Every reason to refuse a call is brought about in several states. Of two objects in the same state one gets the
 * refused call and the other does not; afterwards both must answer alike whatever shows a part of what they hold.
 */
final class RefusedCallsTest {
    private static final String NEW = "";
    private static final String SAMPLED = "turn 2 -1 4 -3; sample 10 20 30 40; sample -7 5 60 0; sample 9 -80 3 3; "
            + "effort 2 1; file 86 1 9";
    private static final String TRAINED = SAMPLED + "; train 2 0 3 2";
    private static final String FILLED = SAMPLED + "; train 2 1 3 2; add 500 20 10 7 7; add 3 -50 4 60 1; "
            + "add 999 0 0 0 0; "
            + "add 256 90 0 -80 2; search 1 2 3 4 3; save; add 0 1 1 1 1; remove 3; effort 3 2; sample 1 2 3 4";
    private static final String FULL = full();
    private static final String FULL_FILE = fullFile();
    /** The bytes of another index than any of the above, with another turn, in pieces and without the CHECK. */
    private static final String HEAD = "86 1 0 2 1 2 ";
    private static final String TURN = "1 2 3 8 ";
    private static final String WIDES = "1 60 ".repeat(8) + "1 50 ".repeat(3);
    private static final String LAST_WORD = "1 50 ";
    private static final String ENTRIES = "0 3 5 6 7 8 3 231 9 9 9 ";
    private static final String LAST_BYTE = "9 ";

    private static final String IDS = "0 1 2 3 4 7 19 20 21 255 256 257 500 501 998 999";

    public static void main(String[] args) {
        changesNothing(NEW, turns(), samples(), removes(), efforts(), files(0), looks(),
                "train 1 0 1 0 = -1; train 0 9 9 9 = -1; train 4 2 4 8 = -1; add 1 0 0 0 0 = -1; add -1 101 0 0 0 = -1",
                "search 0 0 0 0 1 = -1; search 101 0 0 0 9 = -1; save = -1; load = 1; hit 0 = -1; far 0 = -1; "
                        + "entries 0 = -1");
        changesNothing(SAMPLED, turns(), samples(), removes(), efforts(), files(3), looks(), trainings(-3),
                "add 1 0 0 0 0 = -1; add -1 101 0 0 0 = -1; search 0 0 0 0 1 = -1; search 101 0 0 0 9 = -1; "
                        + "save = -1; load = 1");
        changesNothing(TRAINED, turns(), turnsOfATrainedIndex(), samples(), removes(), efforts(), files(3), looks(),
                trainings(-3), entries(), searches(), "load = 1");
        changesNothing(FILLED, turns(), turnsOfATrainedIndex(), samples(), removes(), efforts(), files(75), looks(),
                trainings(-2), "train 1 0 1 0 = -2; train 4 1 4 8 = -2; train 2 2 2 2 = -2", entries(), searches(),
                "add 500 1 1 1 1 = -4; add 0 50 50 50 50 = -4; add 999 0 0 0 0 = -4; add 256 0 0 0 0 = -4");
        changesNothing(FULL, turnsOfATrainedIndex(), removes(), efforts(), files(195), entries(), searches(),
                "sample 0 0 0 0 = false; sample 100 -100 50 1 = false; sample 101 0 0 0 = false; train 1 0 1 0 = -2",
                "add 0 1 1 1 1 = -4; add 19 1 1 1 1 = -4; add 20 1 1 1 1 = -5; add 999 0 0 0 0 = -5; "
                        + "add 501 9 9 9 9 = -5");
        changesNothing(FULL_FILE, "alter 250 7 = false; alter 251 7 = false; alter -1 7 = false; alter 0 256 = false; "
                + "alter 249 -1 = false",
                "alter 250 256 = false; alter greatest 1 = false; alter least 1 = false; cut 251 = false; "
                        + "cut -1 = false; cut greatest = false",
                "load = 2; save = -1");
        loads();
        Check.end();
    }

    private static String full() {
        StringBuilder all = new StringBuilder("turn -3 1 -4 2; effort 3 2; ");
        for (int i = 0; i < 24; i++) {
            all.append(String.format("sample %d %d %d 5; ", 7 * i - 80, i * i % 50, -i));
        }
        all.append("train 4 0 4 3; ");
        for (int id = 0; id < 20; id++) {
            all.append(String.format("add %d %d %d 0 -3; ", id, 5 * id - 40, id * id % 31));
        }
        return all + "search 5 6 0 0 8; save";
    }

    private static String fullFile() {
        StringBuilder all = new StringBuilder();
        for (int p = 0; p < 250; p++) {
            all.append("alter ").append(p).append(" ").append(p * p % 251).append("; ");
        }
        return all.toString();
    }

    private static String turns() {
        return "turn 0 2 3 4 = false; turn 5 2 3 1 = false; turn -5 2 3 1 = false; turn 1 2 3 0 = false; "
                + "turn 4 3 2 5 = false; "
                + "turn 4 3 2 2 = false; turn 4 3 -4 1 = false; turn -2 2 3 4 = false; turn least 3 2 1 = false; "
                + "turn 4 3 2 greatest = false";
    }

    private static String turnsOfATrainedIndex() {
        return "turn 1 2 3 4 = false; turn 4 3 2 1 = false; turn -1 -2 -3 -4 = false; turn 2 -1 4 -3 = false";
    }

    private static String samples() {
        return "sample 101 0 0 0 = false; sample -101 0 0 0 = false; sample 0 101 0 0 = false; "
                + "sample 0 0 -101 0 = false; "
                + "sample 50 50 50 101 = false; sample least 0 0 0 = false; sample 0 greatest 0 0 = false; "
                + "sample 9 9 9 least = false";
    }

    private static String removes() {
        return "remove 501 = false; remove -1 = false; remove 1000 = false; remove 998 = false; remove 257 = false; "
                + "remove least = false; remove greatest = false";
    }

    /** One of the two numbers is a good one, which must not be taken. */
    private static String efforts() {
        return "effort 0 0 = false; effort 0 3 = false; effort 5 0 = false; effort 5 3 = false; effort -1 2 = false; "
                + "effort 4 4 = false; "
                + "effort 4 -1 = false; effort 1 4 = false; effort 1 -1 = false; effort 3 5 = false; "
                + "effort greatest 3 = false; "
                + "effort least 3 = false; effort 4 greatest = false; effort 4 least = false";
    }

    private static String files(int length) {
        return "alter -1 5 = false; alter " + (length + 1) + " 5 = false; alter " + (length + 2) + " 5 = false; "
                + "alter " + length
                + " 256 = false; alter " + length + " -1 = false; alter 0 256 = false; alter 0 -1 = false; "
                + "alter 0 greatest = false; "
                + "alter least 5 = false; alter greatest 5 = false; cut -1 = false; cut " + (length + 1) + " = false; "
                + "cut least = false; cut greatest = false";
    }

    private static String looks() {
        return "centre -1 0 = -1000; centre 4 0 = -1000; centre 0 4 = -1000; word -1 0 0 = -1000; word 4 0 0 = -1000; "
                + "word 0 4 0 = -1000; "
                + "word 0 0 2 = -1000; listOf -1 = -1; listOf 501 = -1; codeOf 1000 = -1; codeOf 501 = -1; "
                + "entries -1 = -1; entries 4 = -1; "
                + "hit -1 = -1; hit 8 = -1; far -1 = -1; far 8 = -1; byteAt -1 = -1; byteAt 250 = -1";
    }

    private static String trainings(int answer) {
        String all = "train 0 0 1 0; train 5 0 1 0; train 2 -1 1 0; train 2 3 1 0; train 2 0 0 0; train 2 0 5 0; "
                + "train 2 2 0 0; train 2 2 5 0; "
                + "train 2 1 2 -1; train 2 1 2 9; train least 0 1 0; train 2 greatest 1 0; train 2 0 least 0; "
                + "train 2 0 1 greatest";
        return all.replace(";", " = " + answer + ";") + " = " + answer;
    }

    private static String entries() {
        return "add -1 1 1 1 1 = -2; add 1000 1 1 1 1 = -2; add least 1 1 1 1 = -2; add greatest 1 1 1 1 = -2; "
                + "add -1 101 0 0 0 = -2; "
                + "add 501 101 0 0 0 = -3; add 501 0 -101 0 0 = -3; add 501 0 0 least 0 = -3; "
                + "add 501 0 0 0 greatest = -3";
    }

    private static String searches() {
        return "search 101 0 0 0 1 = -2; search 0 -101 0 0 8 = -2; search 0 0 least 0 3 = -2; "
                + "search 0 0 0 greatest 3 = -2; "
                + "search 101 0 0 0 0 = -2; search 9 9 9 9 0 = -3; search 9 9 9 9 9 = -3; search 9 9 9 9 -1 = -3; "
                + "search 9 9 9 9 least = -3; search 9 9 9 9 greatest = -3";
    }

    /** Each of the nine reasons, with a file that is as good as can be in all the rest. */
    private static void loads() {
        String all = HEAD + TURN + WIDES + LAST_WORD + ENTRIES + LAST_BYTE;
        String behindHead = all.substring(HEAD.length()) + "check";
        String[] files = {HEAD + TURN,
            "85 1 0 2 1 2 " + behindHead,
            "86 2 0 2 1 2 " + behindHead,
            "86 1 3 2 1 2 " + behindHead,
            HEAD + "1 2 3 7 " + WIDES + LAST_WORD + ENTRIES + LAST_BYTE + "check",
            all + "0 check",
            all + "255",
            HEAD + TURN + WIDES + "2 89 " + ENTRIES + LAST_BYTE + "check",
            HEAD + TURN + WIDES + LAST_WORD + ENTRIES + "201 check"};
        for (String state : new String[] {NEW, SAMPLED, TRAINED, FILLED, FULL}) {
            Run.of("the file as it should be", state, "file " + all + "check; load = 0; listOf 3 = 0; listOf 999 = 0; "
                    + "entries 2 = -1");
            for (int fault = 1; fault <= 9; fault++) {
                changesNothing(state + "; file " + files[fault - 1], "load = " + fault);
            }
        }
    }

    private static void changesNothing(String state, String... refused) {
        for (String calls : refused) {
            for (String call : calls.split(";")) {
                shown(state, call.strip(), "centres; words; entries 0; entries 1; entries 2; entries 3; "
                        + each("listOf") + each("codeOf"));
                shown(state, call.strip(), "results; scanned; bytes");
                shown(state, call.strip(), "save; bytes");
                shown(state, call.strip(), whatIsHidden());
            }
        }
    }

    private static void shown(String state, String call, String looks) {
        String name = call + " in " + (state.length() > 100 ? ".. " + state.substring(state.length() - 100) : state);
        List<String> without = new Run(name).go(state).answers(looks);
        List<String> with = new Run(name).go(state).go(call).answers(looks);
        for (int i = 0; i < without.size(); i++) {
            Check.due("after " + name + " look " + i, with.get(i), without.get(i));
        }
    }

    private static String each(String call) {
        return call + " " + IDS.replace(" ", "; " + call + " ") + "; ";
    }

    /** Calls whose answers show the samples and how many there are, the turn, PROBES and REFINE. */
    private static String whatIsHidden() {
        String searches = "search 5 6 0 0 2; results; scanned; search -40 3 70 8 1; results; scanned; ";
        String entries = "add 1 30 40 3 -20; add 2 -20 5 60 7; add 3 0 0 0 0; add 4 -60 4 2 9; add 5 33 41 2 -22; "
                + "add 6 80 -9 0 3; ";
        String removes = "";
        for (int id = 5; id < 19; id++) {
            removes += "remove " + id + "; ";
        }
        String samples = "sample 40 -30 20 10; ".repeat(24);
        return searches + each("remove") + removes + "train 1 1 4 0; centres; words; " + samples
                + "sample 1 1 1 1; train 4 0 3 1; centres; words; " + entries + searches;
    }
}
