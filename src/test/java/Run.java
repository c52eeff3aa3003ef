import java.util.ArrayList;
import java.util.List;
import java.util.StringJoiner;

/**
 * A run of calls on a new object, written as rows parted by ";", such as "add 7 1 2 3 4 = 0". A row without an
 * answer must not be refused; "least" and "greatest" stand for the ends of int.
 *
 * Beside the calls there are rows that look at much at once ("centres = 1,2,3,4 5,6,7,8", "words", "results",
 * "bytes") and "file 86 1 .. check", which writes a file; among bytes, "check" is the CHECK of those before it.
 */
final class Run {
    /** What the document promises for one object. */
    private static final int MOST_CALLS = 512;

    private final String name;
    private final QuantisedLists index = new QuantisedLists();
    private int calls = 0;

    Run(String name) {
        this.name = name;
    }

    static void of(String name, String... rows) {
        new Run(name).go(rows);
    }

    Run go(String... texts) {
        for (String row : rows(texts)) {
            int sign = row.indexOf('=');
            String call = (sign < 0 ? row : row.substring(0, sign)).strip();
            String got = answer(call);
            if (sign < 0) {
                Check.due(name + ": " + call + " is refused with " + got + ", which", isRefusal(call, got), false);
            } else {
                Check.due(name + ": call " + calls + ", " + call, got, withCheck(row.substring(sign + 1).strip()));
            }
        }
        return this;
    }

    /** The rows with their answers, for two runs that are held against each other. */
    List<String> answers(String... texts) {
        List<String> all = new ArrayList<>();
        for (String row : rows(texts)) {
            all.add(row + " = " + answer(row));
        }
        return all;
    }

    int calls() {
        return calls;
    }

    /** Samples with a first coordinate alone, as rows. */
    static String line(int... values) {
        StringBuilder all = new StringBuilder();
        for (int x : values) {
            all.append("sample ").append(x).append(" 0 0 0; ");
        }
        return all.toString();
    }

    /** The text of four numbers of which the one at a place is v and the others are 0. */
    static String only(int place, long v) {
        StringJoiner all = new StringJoiner(" ");
        for (int k = 0; k < 4; k++) {
            all.add(k == place ? String.valueOf(v) : "0");
        }
        return all.toString();
    }

    private static List<String> rows(String... texts) {
        List<String> all = new ArrayList<>();
        for (String text : texts) {
            for (String row : text.split(";")) {
                if (!row.isBlank()) {
                    all.add(row.strip());
                }
            }
        }
        return all;
    }

    private static boolean isRefusal(String call, String got) {
        return got.equals("false") || got.startsWith("-") || call.equals("load") && !got.equals("0");
    }

    private static int number(String text) {
        return switch (text) {
            case "least" -> Integer.MIN_VALUE;
            case "greatest" -> Integer.MAX_VALUE;
            default -> Integer.parseInt(text);
        };
    }

    private static String withCheck(String bytes) {
        if (!bytes.endsWith("check")) {
            return bytes;
        }
        String before = bytes.substring(0, bytes.length() - "check".length()).strip();
        long sum = 0;
        int place = 0;
        for (String b : before.split(" +")) {
            place++;
            sum += (long) place * number(b);
        }
        return (before + " " + sum % 251).replaceAll(" +", " ");
    }

    private String answer(String call) {
        return switch (call.split(" +")[0]) {
            case "centres" -> centres();
            case "words" -> words();
            case "results" -> results();
            case "bytes" -> bytes();
            case "file" -> write(withCheck(call.substring("file".length()).strip()));
            default -> ask(call);
        };
    }

    private String ask(String call) {
        String[] parts = call.split(" +");
        int[] a = new int[parts.length - 1];
        for (int i = 0; i < a.length; i++) {
            a[i] = number(parts[i + 1]);
        }
        calls++;
        if (calls > MOST_CALLS) {
            throw new IllegalStateException(name + ": too many calls");
        }
        return switch (parts[0] + "/" + a.length) {
            case "turn/4" -> String.valueOf(index.turn(a[0], a[1], a[2], a[3]));
            case "sample/4" -> String.valueOf(index.sample(a[0], a[1], a[2], a[3]));
            case "remove/1" -> String.valueOf(index.remove(a[0]));
            case "effort/2" -> String.valueOf(index.effort(a[0], a[1]));
            case "alter/2" -> String.valueOf(index.alter(a[0], a[1]));
            case "cut/1" -> String.valueOf(index.cut(a[0]));
            default -> String.valueOf(askForNumber(parts[0] + "/" + a.length, a));
        };
    }

    private int askForNumber(String method, int[] a) {
        return switch (method) {
            case "train/4" -> index.train(a[0], a[1], a[2], a[3]);
            case "centre/2" -> index.centre(a[0], a[1]);
            case "word/3" -> index.word(a[0], a[1], a[2]);
            case "add/5" -> index.add(a[0], a[1], a[2], a[3], a[4]);
            case "listOf/1" -> index.listOf(a[0]);
            case "codeOf/1" -> index.codeOf(a[0]);
            case "entries/1" -> index.entries(a[0]);
            case "search/5" -> index.search(a[0], a[1], a[2], a[3], a[4]);
            case "hit/1" -> index.hit(a[0]);
            case "far/1" -> index.far(a[0]);
            case "scanned/0" -> index.scanned();
            case "save/0" -> index.save();
            case "byteAt/1" -> index.byteAt(a[0]);
            case "load/0" -> index.load();
            default -> throw new IllegalArgumentException(name + ": there is no call " + method);
        };
    }

    private String centres() {
        StringJoiner all = new StringJoiner(" ");
        for (int list = 0; isThere("centre " + list + " 0"); list++) {
            StringJoiner one = new StringJoiner(",");
            for (int k = 0; k < 4; k++) {
                one.add(ask("centre " + list + " " + k));
            }
            all.add(one.toString());
        }
        return all.toString();
    }

    private String words() {
        StringJoiner all = new StringJoiner(" / ");
        for (int part = 0; isThere("word " + part + " 0 0"); part++) {
            StringJoiner ofPart = new StringJoiner(" ");
            for (int number = 0; isThere("word " + part + " " + number + " 0"); number++) {
                String first = ask("word " + part + " " + number + " 0");
                String second = ask("word " + part + " " + number + " 1");
                ofPart.add(second.equals("-1000") ? first : first + "," + second);
            }
            all.add(ofPart.toString());
        }
        return all.toString();
    }

    private boolean isThere(String call) {
        return !ask(call).equals("-1000");
    }

    private String results() {
        StringJoiner all = new StringJoiner(" ");
        for (int r = 0; ; r++) {
            String id = ask("hit " + r);
            if (id.equals("-1")) {
                return all.toString();
            }
            all.add(id + ":" + ask("far " + r));
        }
    }

    private String bytes() {
        StringJoiner all = new StringJoiner(" ");
        for (int p = 0; ; p++) {
            String b = ask("byteAt " + p);
            if (b.equals("-1")) {
                return all.toString();
            }
            all.add(b);
        }
    }

    private String write(String bytes) {
        ask("cut 0");
        int p = 0;
        for (String b : bytes.split(" +")) {
            if (!ask("alter " + p + " " + b).equals("true")) {
                return "-1";
            }
            p++;
        }
        return String.valueOf(p);
    }
}
