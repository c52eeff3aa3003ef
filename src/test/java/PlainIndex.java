import java.util.ArrayList;
import java.util.Arrays;
import java.util.Comparator;
import java.util.List;
import java.util.TreeMap;

/**
 * The document once more, word for word and without a thought of room, for RandomRunsTest to compare with.
 * It shares no code and no way of keeping things with the program.
 */
final class PlainIndex {
    private record Result(int id, int far) {
    }

    private record Looked(int id, int codeDistance, int distance) {
    }

    private List<Integer> turn = List.of(1, 2, 3, 4);
    private final List<List<Integer>> samples = new ArrayList<>();
    private boolean trained = false;
    private int kind;
    private int codes;
    private List<List<Integer>> centres = List.of();
    private List<List<List<Integer>>> words = List.of();
    private TreeMap<Integer, List<Integer>> points = new TreeMap<>();
    private int probes = 1;
    private int refine = 0;
    private List<Result> results = List.of();
    private int scanned = 0;
    private List<Integer> file = new ArrayList<>();

    private static boolean bad(List<Integer> point) {
        return point.stream().anyMatch(v -> v < -100 || v > 100);
    }

    private static boolean isTurn(List<Integer> t) {
        return t.stream().allMatch(v -> List.of(-4, -3, -2, -1, 1, 2, 3, 4).contains(v))
                && t.stream().map(Math::abs).distinct().count() == 4;
    }

    private List<Integer> turned(List<Integer> point) {
        List<Integer> all = new ArrayList<>();
        for (int t : turn) {
            all.add(Integer.signum(t) * point.get(Math.abs(t) - 1));
        }
        return all;
    }

    private static int dist(List<Integer> a, List<Integer> b) {
        int sum = 0;
        for (int i = 0; i < a.size(); i++) {
            sum += (int) Math.pow(a.get(i) - b.get(i), 2);
        }
        return sum;
    }

    private static int nearest(List<List<Integer>> of, List<Integer> to) {
        int least = of.stream().mapToInt(o -> dist(o, to)).min().getAsInt();
        int number = 0;
        while (dist(of.get(number), to) != least) {
            number++;
        }
        return number;
    }

    private static List<List<Integer>> cluster(List<List<Integer>> items, int c, int rounds) {
        List<List<Integer>> made = new ArrayList<>();
        made.add(items.get(0));
        while (made.size() < c) {
            List<Integer> gaps = items.stream().map(i -> dist(i, made.get(nearest(made, i)))).toList();
            int greatest = gaps.stream().max(Comparator.naturalOrder()).get();
            made.add(items.get(gaps.indexOf(greatest)));
        }
        for (int round = 0; round < rounds; round++) {
            List<List<List<Integer>>> members = new ArrayList<>();
            for (int i = 0; i < c; i++) {
                members.add(new ArrayList<>());
            }
            for (List<Integer> item : items) {
                members.get(nearest(made, item)).add(item);
            }
            for (int i = 0; i < c; i++) {
                if (!members.get(i).isEmpty()) {
                    made.set(i, mean(members.get(i)));
                }
            }
            int[] share = members.stream().mapToInt(List::size).toArray();
            for (int e = 0; e < c; e++) {
                if (members.get(e).isEmpty()) {
                    int most = Arrays.stream(share).max().getAsInt();
                    int b = 0;
                    while (share[b] != most) {
                        b++;
                    }
                    List<Integer> copy = new ArrayList<>(made.get(b));
                    copy.set(0, copy.get(0) + 1);
                    made.set(e, copy);
                    share[e] = (int) Math.floor(most / 2.0);
                    share[b] = most - share[e];
                }
            }
        }
        return made;
    }

    private static List<Integer> mean(List<List<Integer>> of) {
        List<Integer> all = new ArrayList<>();
        for (int i = 0; i < of.get(0).size(); i++) {
            int place = i;
            all.add((int) Math.floor(of.stream().mapToInt(m -> m.get(place)).average().getAsDouble()));
        }
        return all;
    }

    private static List<Integer> less(List<Integer> point, List<Integer> centre) {
        List<Integer> all = new ArrayList<>();
        for (int i = 0; i < 4; i++) {
            all.add(point.get(i) - centre.get(i));
        }
        return all;
    }

    private static List<List<Integer>> split(int kind, List<Integer> point) {
        return switch (kind) {
            case 0 -> List.of(point.subList(0, 2), point.subList(2, 4));
            case 1 -> point.stream().map(List::of).toList();
            default -> List.of();
        };
    }

    boolean turn(int t0, int t1, int t2, int t3) {
        if (!isTurn(List.of(t0, t1, t2, t3)) || trained) {
            return false;
        }
        turn = List.of(t0, t1, t2, t3);
        return true;
    }

    boolean sample(int x, int y, int z, int w) {
        if (bad(List.of(x, y, z, w)) || samples.size() == 24) {
            return false;
        }
        samples.add(List.of(x, y, z, w));
        return true;
    }

    int train(int lists, int newKind, int newCodes, int rounds) {
        if (samples.isEmpty()) {
            return -1;
        }
        if (!points.isEmpty()) {
            return -2;
        }
        if (lists < 1 || lists > 4 || newKind < 0 || newKind > 2 || newCodes < 1 || newCodes > 4
                || rounds < 0 || rounds > 8) {
            return -3;
        }
        trained = true;
        kind = newKind;
        codes = newCodes;
        List<List<Integer>> turnedSamples = samples.stream().map(this::turned).toList();
        centres = cluster(turnedSamples, lists, rounds);
        List<List<Integer>> left = turnedSamples.stream().map(s -> less(s, centres.get(nearest(centres, s)))).toList();
        List<List<List<Integer>>> newWords = new ArrayList<>();
        for (int p = 0; p < split(kind, left.get(0)).size(); p++) {
            int part = p;
            List<List<Integer>> ofPart = left.stream().map(l -> split(kind, l).get(part)).toList();
            newWords.add(kind == 0 ? cluster(ofPart, codes, rounds) : spread(ofPart));
        }
        words = newWords;
        int sum = 0;
        for (List<Integer> l : left) {
            for (int p = 0; p < words.size(); p++) {
                List<Integer> part = split(kind, l).get(p);
                sum += words.get(p).stream().mapToInt(word -> dist(word, part)).min().getAsInt();
            }
        }
        return sum;
    }

    private List<List<Integer>> spread(List<List<Integer>> values) {
        int low = values.stream().mapToInt(v -> v.get(0)).min().getAsInt();
        int high = values.stream().mapToInt(v -> v.get(0)).max().getAsInt();
        List<List<Integer>> all = new ArrayList<>();
        for (int j = 0; j < codes; j++) {
            all.add(List.of(codes == 1 ? low : Math.floorDiv(low * (codes - 1) + (high - low) * j, codes - 1)));
        }
        return all;
    }

    private static <T> boolean has(List<T> all, int place) {
        return place >= 0 && place < all.size();
    }

    int centre(int list, int coordinate) {
        return trained && has(centres, list) && has(centres.get(list), coordinate)
                ? centres.get(list).get(coordinate) : -1000;
    }

    int word(int part, int number, int coordinate) {
        return trained && has(words, part) && has(words.get(part), number)
                && has(words.get(part).get(number), coordinate)
                ? words.get(part).get(number).get(coordinate) : -1000;
    }

    int add(int id, int x, int y, int z, int w) {
        if (!trained) {
            return -1;
        }
        if (id < 0 || id > 999) {
            return -2;
        }
        if (bad(List.of(x, y, z, w))) {
            return -3;
        }
        if (points.containsKey(id)) {
            return -4;
        }
        if (points.size() == 20) {
            return -5;
        }
        points.put(id, List.of(x, y, z, w));
        return listOf(id);
    }

    boolean remove(int id) {
        return points.remove(id) != null;
    }

    int listOf(int id) {
        return points.containsKey(id) ? nearest(centres, turned(points.get(id))) : -1;
    }

    private List<Integer> code(int id) {
        List<List<Integer>> parts = split(kind, less(turned(points.get(id)), centres.get(listOf(id))));
        List<Integer> all = new ArrayList<>();
        for (int p = 0; p < parts.size(); p++) {
            all.add(nearest(words.get(p), parts.get(p)));
        }
        return all;
    }

    int codeOf(int id) {
        if (!points.containsKey(id)) {
            return -1;
        }
        List<Integer> code = code(id);
        int sum = 0;
        for (int p = 0; p < code.size(); p++) {
            sum += code.get(p) * (int) Math.pow(codes, p);
        }
        return sum;
    }

    int entries(int list) {
        return trained && has(centres, list)
                ? (int) points.keySet().stream().filter(id -> listOf(id) == list).count() : -1;
    }

    boolean effort(int newProbes, int newRefine) {
        if (newProbes < 1 || newProbes > 4 || newRefine < 0 || newRefine > 3) {
            return false;
        }
        probes = newProbes;
        refine = newRefine;
        return true;
    }

    int search(int x, int y, int z, int w, int k) {
        if (!trained) {
            return -1;
        }
        if (bad(List.of(x, y, z, w))) {
            return -2;
        }
        if (k < 1 || k > 8) {
            return -3;
        }
        List<Integer> q = turned(List.of(x, y, z, w));
        List<Integer> order = new ArrayList<>();
        for (int list = 0; list < centres.size(); list++) {
            order.add(list);
        }
        order.sort(Comparator.comparingInt((Integer list) -> dist(centres.get(list), q)).thenComparing(l -> l));
        List<Integer> through = order.subList(0, Math.min(probes, order.size()));
        List<Looked> looked = points.keySet().stream().filter(id -> through.contains(listOf(id)))
                .map(id -> new Looked(id, codeDistance(q, id), dist(q, turned(points.get(id))))).toList();
        scanned = looked.size();
        List<Looked> byCode = looked.stream().sorted(Comparator.comparingInt(Looked::codeDistance)
                .thenComparing(Looked::id)).toList();
        if (refine == 0) {
            results = byCode.stream().limit(k).map(l -> new Result(l.id(), l.codeDistance())).toList();
        } else {
            results = byCode.stream().limit(k * refine).sorted(Comparator.comparingInt(Looked::distance)
                    .thenComparing(Looked::id)).limit(k).map(l -> new Result(l.id(), l.distance())).toList();
        }
        return results.size();
    }

    private int codeDistance(List<Integer> q, int id) {
        if (kind == 2) {
            return dist(q, turned(points.get(id)));
        }
        List<List<Integer>> parts = split(kind, less(q, centres.get(listOf(id))));
        int sum = 0;
        for (int p = 0; p < parts.size(); p++) {
            sum += dist(parts.get(p), words.get(p).get(code(id).get(p)));
        }
        return sum;
    }

    int hit(int r) {
        return has(results, r) ? results.get(r).id() : -1;
    }

    int far(int r) {
        return has(results, r) ? results.get(r).far() : -1;
    }

    int scanned() {
        return scanned;
    }

    int save() {
        if (!trained) {
            return -1;
        }
        List<Integer> made = new ArrayList<>(List.of(86, 1, kind, centres.size(), codes, points.size()));
        turn.forEach(t -> made.add(t + 4));
        List<Integer> wide = new ArrayList<>();
        centres.forEach(wide::addAll);
        words.forEach(part -> part.forEach(wide::addAll));
        wide.forEach(v -> made.addAll(List.of((v + 300) / 256, (v + 300) % 256)));
        points.forEach((id, point) -> {
            made.addAll(List.of(id / 256, id % 256));
            point.forEach(v -> made.add(v + 100));
        });
        made.add(check(made));
        file = made;
        return file.size();
    }

    private static int check(List<Integer> bytes) {
        int sum = 0;
        for (int p = 0; p < bytes.size(); p++) {
            sum += bytes.get(p) * (p + 1);
        }
        return sum % 251;
    }

    /** What the last byte would have to be for load to find the CHECK right. */
    int dueCheck() {
        return file.isEmpty() ? 0 : check(file.subList(0, file.size() - 1));
    }

    int fileLength() {
        return file.size();
    }

    boolean alter(int p, int b) {
        if (p < 0 || p > file.size() || p == 250 || b < 0 || b > 255) {
            return false;
        }
        if (p == file.size()) {
            file.add(b);
        } else {
            file.set(p, b);
        }
        return true;
    }

    boolean cut(int n) {
        if (n < 0 || n > file.size()) {
            return false;
        }
        file = new ArrayList<>(file.subList(0, n));
        return true;
    }

    int byteAt(int p) {
        return has(file, p) ? file.get(p) : -1;
    }

    int load() {
        if (file.size() < 11) {
            return 1;
        }
        if (file.get(0) != 86) {
            return 2;
        }
        if (file.get(1) != 1) {
            return 3;
        }
        int newKind = file.get(2);
        int lists = file.get(3);
        int newCodes = file.get(4);
        int n = file.get(5);
        if (newKind > 2 || lists < 1 || lists > 4 || newCodes < 1 || newCodes > 4 || n > 20) {
            return 4;
        }
        List<Integer> newTurn = file.subList(6, 10).stream().map(b -> b - 4).toList();
        if (!isTurn(newTurn)) {
            return 5;
        }
        int parts = newKind == 0 ? 2 : newKind == 1 ? 4 : 0;
        int partWidth = newKind == 0 ? 2 : 1;
        if (file.size() != 10 + lists * 8 + parts * newCodes * partWidth * 2 + n * 6 + 1) {
            return 6;
        }
        if (file.get(file.size() - 1) != dueCheck()) {
            return 7;
        }
        int place = 10;
        List<List<Integer>> newCentres = new ArrayList<>();
        for (int list = 0; list < lists; list++, place += 8) {
            newCentres.add(wide(place, 4));
        }
        List<List<List<Integer>>> newWords = new ArrayList<>();
        for (int part = 0; part < parts; part++) {
            newWords.add(new ArrayList<>());
            for (int number = 0; number < newCodes; number++, place += 2 * partWidth) {
                newWords.get(part).add(wide(place, partWidth));
            }
        }
        if (newCentres.stream().flatMap(List::stream).anyMatch(v -> v > 300)
                || newWords.stream().flatMap(List::stream).flatMap(List::stream).anyMatch(v -> v > 300)) {
            return 8;
        }
        TreeMap<Integer, List<Integer>> newPoints = new TreeMap<>();
        for (int entry = 0; entry < n; entry++, place += 6) {
            int id = file.get(place) * 256 + file.get(place + 1);
            List<Integer> point = file.subList(place + 2, place + 6).stream().map(b -> b - 100).toList();
            if (id > 999 || !newPoints.isEmpty() && id <= newPoints.lastKey() || bad(point)) {
                return 9;
            }
            newPoints.put(id, point);
        }
        trained = true;
        kind = newKind;
        codes = newCodes;
        turn = newTurn;
        centres = newCentres;
        words = newWords;
        points = newPoints;
        return 0;
    }

    private List<Integer> wide(int place, int count) {
        List<Integer> all = new ArrayList<>();
        for (int i = 0; i < count; i++) {
            all.add(file.get(place + 2 * i) * 256 + file.get(place + 2 * i + 1) - 300);
        }
        return all;
    }
}
