/**
 * An index of points: lists by the nearest centre, short codes of what is left of each point,
 * and a search by the distances of the codes. README.md tells how it is used.
 *
 * Every row is made once, with the object, and used again: no call makes an object.
 */
public final class QuantisedLists {
    public static final int NONE = -1;
    public static final int ABSENT = -1000;

    private static final int WIDTH = 4;
    private static final int POINT_REACH = 100;
    private static final int GREATEST_ID = 999;
    private static final int MOST_SAMPLES = 24;
    private static final int MOST_ENTRIES = 20;
    private static final int MOST_LISTS = 4;
    private static final int MOST_CODES = 4;
    private static final int MOST_CENTRES = 4;
    private static final int MOST_ROUNDS = 8;
    private static final int MOST_PARTS = 4;
    private static final int MOST_PART_WIDTH = 2;
    private static final int MOST_PROBES = 4;
    private static final int MOST_REFINE = 3;
    private static final int MOST_RESULTS = 8;

    private static final int PRODUCT = 0;
    private static final int SCALAR = 1;
    private static final int FLAT = 2;

    private final Turn axes = new Turn();
    private final Samples samples = new Samples();
    private final Clustering clustering = new Clustering();
    private final Quantiser quantiser = new Quantiser();
    private final EntryTable table = new EntryTable();
    private final Finder finder = new Finder();
    private final ByteFile file = new ByteFile();

    public QuantisedLists() {
    }

    public boolean turn(int t0, int t1, int t2, int t3) {
        if (!Turn.allows(t0, t1, t2, t3) || quantiser.trained) {
            return false;
        }
        axes.become(t0, t1, t2, t3);
        return true;
    }

    public boolean sample(int x, int y, int z, int w) {
        if (isBad(x, y, z, w) || samples.count >= MOST_SAMPLES) {
            return false;
        }
        setPoint(samples.points[samples.count], x, y, z, w);
        samples.count++;
        return true;
    }

    public int train(int lists, int kind, int codes, int rounds) {
        if (samples.count == 0) {
            return -1;
        }
        if (table.count > 0) {
            return -2;
        }
        if (!isWithin(lists, 1, MOST_LISTS) || !isWithin(kind, PRODUCT, FLAT)
                || !isWithin(codes, 1, MOST_CODES) || !isWithin(rounds, 0, MOST_ROUNDS)) {
            return -3;
        }
        quantiser.become(kind, lists, codes);
        learnCentres(rounds);
        keepWhatIsLeft();
        learnWords(rounds);
        return trainingError();
    }

    public int centre(int list, int coordinate) {
        if (!quantiser.hasList(list) || !isWithin(coordinate, 0, WIDTH - 1)) {
            return ABSENT;
        }
        return quantiser.centres[list][coordinate];
    }

    public int word(int part, int number, int coordinate) {
        if (!quantiser.hasWord(part, number)
                || !isWithin(coordinate, 0, partWidthOf(quantiser.kind) - 1)) {
            return ABSENT;
        }
        return quantiser.words[wordRow(part, number)][coordinate];
    }

    public int add(int id, int x, int y, int z, int w) {
        if (!quantiser.trained) {
            return -1;
        }
        if (!isWithin(id, 0, GREATEST_ID)) {
            return -2;
        }
        if (isBad(x, y, z, w)) {
            return -3;
        }
        if (table.placeOf(id) != NONE) {
            return -4;
        }
        if (table.count >= MOST_ENTRIES) {
            return -5;
        }
        return putEntry(id, x, y, z, w);
    }

    public boolean remove(int id) {
        int place = table.placeOf(id);
        if (place == NONE) {
            return false;
        }
        table.drop(place);
        return true;
    }

    public int listOf(int id) {
        int place = table.placeOf(id);
        return place == NONE ? NONE : table.rows[place].list;
    }

    public int codeOf(int id) {
        int place = table.placeOf(id);
        return place == NONE ? NONE : quantiser.codeAsNumber(table.rows[place]);
    }

    public int entries(int list) {
        return quantiser.hasList(list) ? table.countInList(list) : NONE;
    }

    public boolean effort(int probes, int refine) {
        if (!isWithin(probes, 1, MOST_PROBES) || !isWithin(refine, 0, MOST_REFINE)) {
            return false;
        }
        finder.probes = probes;
        finder.refine = refine;
        return true;
    }

    public int search(int x, int y, int z, int w, int k) {
        if (!quantiser.trained) {
            return -1;
        }
        if (isBad(x, y, z, w)) {
            return -2;
        }
        if (!isWithin(k, 1, MOST_RESULTS)) {
            return -3;
        }
        setPoint(finder.given, x, y, z, w);
        axes.apply(finder.given, finder.goal);
        finder.find(quantiser, table, k);
        return finder.results;
    }

    public int hit(int r) {
        return finder.hasResult(r) ? finder.ids[r] : NONE;
    }

    public int far(int r) {
        return finder.hasResult(r) ? finder.distances[r] : NONE;
    }

    public int scanned() {
        return finder.looked;
    }

    public int save() {
        if (!quantiser.trained) {
            return NONE;
        }
        file.length = 0;
        writeHead();
        writeCentres();
        writeWords();
        writeEntries();
        file.put(file.checkOf(file.length));
        return file.length;
    }

    public boolean alter(int p, int b) {
        if (!isWithin(p, 0, file.length) || p >= ByteFile.MOST_BYTES || !isWithin(b, 0, 255)) {
            return false;
        }
        file.bytes[p] = b;
        if (p == file.length) {
            file.length++;
        }
        return true;
    }

    public boolean cut(int n) {
        if (!isWithin(n, 0, file.length)) {
            return false;
        }
        file.length = n;
        return true;
    }

    public int byteAt(int p) {
        return isWithin(p, 0, file.length - 1) ? file.bytes[p] : NONE;
    }

    public int load() {
        int fault = file.fault();
        if (fault != 0) {
            return fault;
        }
        readHead();
        readCentres();
        readWords();
        readEntries();
        return 0;
    }

    private void learnCentres(int rounds) {
        clustering.size = samples.count;
        for (int i = 0; i < samples.count; i++) {
            axes.apply(samples.points[i], clustering.items[i]);
        }
        clustering.cluster(0, WIDTH, quantiser.lists, rounds);
        clustering.giveCentres(quantiser.centres, 0);
    }

    /** The items of the clustering become what is left of them, which is what the words are learnt from. */
    private void keepWhatIsLeft() {
        for (int i = 0; i < clustering.size; i++) {
            int[] item = clustering.items[i];
            subtract(item, quantiser.centres[quantiser.nearestList(item)], item);
        }
    }

    private void learnWords(int rounds) {
        int width = partWidthOf(quantiser.kind);
        for (int part = 0; part < partsOf(quantiser.kind); part++) {
            if (quantiser.kind == PRODUCT) {
                clustering.cluster(part * width, width, quantiser.codes, rounds);
                clustering.giveCentres(quantiser.words, wordRow(part, 0));
            } else {
                quantiser.spreadWords(part, clustering.least(part), clustering.greatest(part));
            }
        }
    }

    private int trainingError() {
        int error = 0;
        for (int i = 0; i < clustering.size; i++) {
            int[] left = clustering.items[i];
            for (int part = 0; part < partsOf(quantiser.kind); part++) {
                error += quantiser.wordDistance(part, quantiser.nearestWord(part, left), left);
            }
        }
        return error;
    }

    private int putEntry(int id, int x, int y, int z, int w) {
        Entry entry = table.rows[table.makeRoom(id)];
        setPoint(entry.given, x, y, z, w);
        axes.apply(entry.given, entry.turned);
        quantiser.encode(entry);
        return entry.list;
    }

    private void writeHead() {
        file.put(ByteFile.MARK);
        file.put(ByteFile.VERSION);
        file.put(quantiser.kind);
        file.put(quantiser.lists);
        file.put(quantiser.codes);
        file.put(table.count);
        for (int k = 0; k < WIDTH; k++) {
            file.put(axes.steps[k] + ByteFile.TURN_SHIFT);
        }
    }

    private void writeCentres() {
        for (int list = 0; list < quantiser.lists; list++) {
            for (int k = 0; k < WIDTH; k++) {
                file.putPair(quantiser.centres[list][k] + ByteFile.WIDE_REACH);
            }
        }
    }

    private void writeWords() {
        for (int part = 0; part < partsOf(quantiser.kind); part++) {
            for (int number = 0; number < quantiser.codes; number++) {
                for (int k = 0; k < partWidthOf(quantiser.kind); k++) {
                    file.putPair(quantiser.words[wordRow(part, number)][k] + ByteFile.WIDE_REACH);
                }
            }
        }
    }

    private void writeEntries() {
        for (int i = 0; i < table.count; i++) {
            Entry entry = table.rows[i];
            file.putPair(entry.id);
            for (int k = 0; k < WIDTH; k++) {
                file.put(entry.given[k] + POINT_REACH);
            }
        }
    }

    private void readHead() {
        quantiser.become(file.bytes[ByteFile.KIND], file.bytes[ByteFile.LISTS], file.bytes[ByteFile.CODES]);
        axes.become(file.step(0), file.step(1), file.step(2), file.step(3));
    }

    private void readCentres() {
        for (int list = 0; list < quantiser.lists; list++) {
            for (int k = 0; k < WIDTH; k++) {
                quantiser.centres[list][k] = file.wide(list * WIDTH + k);
            }
        }
    }

    private void readWords() {
        int next = quantiser.lists * WIDTH;
        for (int part = 0; part < partsOf(quantiser.kind); part++) {
            for (int number = 0; number < quantiser.codes; number++) {
                for (int k = 0; k < partWidthOf(quantiser.kind); k++) {
                    quantiser.words[wordRow(part, number)][k] = file.wide(next);
                    next++;
                }
            }
        }
    }

    private void readEntries() {
        table.count = 0;
        for (int i = 0; i < file.bytes[ByteFile.ENTRIES]; i++) {
            putEntry(file.entryId(i), file.entryCoordinate(i, 0), file.entryCoordinate(i, 1),
                    file.entryCoordinate(i, 2), file.entryCoordinate(i, 3));
        }
    }

    private static boolean isWithin(int value, int least, int greatest) {
        return value >= least && value <= greatest;
    }

    private static boolean isBad(int x, int y, int z, int w) {
        return !isWithin(x, -POINT_REACH, POINT_REACH) || !isWithin(y, -POINT_REACH, POINT_REACH)
                || !isWithin(z, -POINT_REACH, POINT_REACH) || !isWithin(w, -POINT_REACH, POINT_REACH);
    }

    private static void setPoint(int[] row, int x, int y, int z, int w) {
        row[0] = x;
        row[1] = y;
        row[2] = z;
        row[3] = w;
    }

    private static int partsOf(int kind) {
        if (kind == PRODUCT) {
            return 2;
        }
        return kind == SCALAR ? 4 : 0;
    }

    private static int partWidthOf(int kind) {
        if (kind == PRODUCT) {
            return 2;
        }
        return kind == SCALAR ? 1 : 0;
    }

    private static int wordRow(int part, int number) {
        return part * MOST_CODES + number;
    }

    private static void subtract(int[] point, int[] centre, int[] left) {
        for (int k = 0; k < WIDTH; k++) {
            left[k] = point[k] - centre[k];
        }
    }

    /** The distance between a row and the part of a point that begins at coordinate from. */
    private static int distance(int[] row, int[] point, int from, int width) {
        int sum = 0;
        for (int k = 0; k < width; k++) {
            int difference = row[k] - point[from + k];
            sum += difference * difference;
        }
        return sum;
    }

    /** The number, counted from first, of the nearest of count rows; the least one of several. */
    private static int nearestRow(int[][] rows, int first, int count, int[] point, int from, int width) {
        int best = 0;
        int bestDistance = distance(rows[first], point, from, width);
        for (int number = 1; number < count; number++) {
            int next = distance(rows[first + number], point, from, width);
            if (next < bestDistance) {
                best = number;
                bestDistance = next;
            }
        }
        return best;
    }

    /** Which coordinate of a given point each coordinate of the turned point is, and its sign. */
    private static final class Turn {
        private static final int ALL_AXES = 0b11110;

        private final int[] steps = {1, 2, 3, 4};

        static boolean allows(int t0, int t1, int t2, int t3) {
            if (!isStep(t0) || !isStep(t1) || !isStep(t2) || !isStep(t3)) {
                return false;
            }
            return (axisBit(t0) | axisBit(t1) | axisBit(t2) | axisBit(t3)) == ALL_AXES;
        }

        private static boolean isStep(int t) {
            return t != 0 && isWithin(t, -WIDTH, WIDTH);
        }

        private static int axisBit(int t) {
            return 1 << Math.abs(t);
        }

        void become(int t0, int t1, int t2, int t3) {
            setPoint(steps, t0, t1, t2, t3);
        }

        void apply(int[] given, int[] turned) {
            for (int k = 0; k < WIDTH; k++) {
                int value = given[Math.abs(steps[k]) - 1];
                turned[k] = steps[k] < 0 ? -value : value;
            }
        }
    }

    /** The samples as they were given: a load may bring another turn before the next training. */
    private static final class Samples {
        private final int[][] points = new int[MOST_SAMPLES][WIDTH];
        private int count;
    }

    /** Clusters one part of its items, the coordinates from .. from + width - 1. */
    private static final class Clustering {
        private final int[][] items = new int[MOST_SAMPLES][WIDTH];
        private final int[][] centres = new int[MOST_CENTRES][WIDTH];
        private final int[][] sums = new int[MOST_CENTRES][WIDTH];
        private final int[] members = new int[MOST_CENTRES];
        private final int[] shares = new int[MOST_CENTRES];
        private int size;
        private int from;
        private int width;
        private int count;

        void cluster(int itsFrom, int itsWidth, int itsCount, int rounds) {
            from = itsFrom;
            width = itsWidth;
            count = itsCount;
            chooseCentres();
            for (int round = 0; round < rounds; round++) {
                countMembers();
                moveToMeans();
                fillEmptyCentres();
            }
        }

        void giveCentres(int[][] rows, int first) {
            for (int c = 0; c < count; c++) {
                for (int k = 0; k < width; k++) {
                    rows[first + c][k] = centres[c][k];
                }
            }
        }

        int least(int coordinate) {
            int value = items[0][coordinate];
            for (int i = 1; i < size; i++) {
                value = Math.min(value, items[i][coordinate]);
            }
            return value;
        }

        int greatest(int coordinate) {
            int value = items[0][coordinate];
            for (int i = 1; i < size; i++) {
                value = Math.max(value, items[i][coordinate]);
            }
            return value;
        }

        private void chooseCentres() {
            beginCentre(0, 0);
            for (int c = 1; c < count; c++) {
                beginCentre(c, farthestItem(c));
            }
        }

        private void beginCentre(int c, int item) {
            for (int k = 0; k < width; k++) {
                centres[c][k] = items[item][from + k];
            }
        }

        /** The first item that is farthest from the nearest of the first known centres. */
        private int farthestItem(int known) {
            int best = 0;
            int bestDistance = -1;
            for (int i = 0; i < size; i++) {
                int near = nearestRow(centres, 0, known, items[i], from, width);
                int next = distance(centres[near], items[i], from, width);
                if (next > bestDistance) {
                    best = i;
                    bestDistance = next;
                }
            }
            return best;
        }

        private void countMembers() {
            for (int c = 0; c < count; c++) {
                members[c] = 0;
                for (int k = 0; k < width; k++) {
                    sums[c][k] = 0;
                }
            }
            for (int i = 0; i < size; i++) {
                int c = nearestRow(centres, 0, count, items[i], from, width);
                members[c]++;
                for (int k = 0; k < width; k++) {
                    sums[c][k] += items[i][from + k];
                }
            }
        }

        private void moveToMeans() {
            for (int c = 0; c < count; c++) {
                if (members[c] > 0) {
                    for (int k = 0; k < width; k++) {
                        centres[c][k] = Math.floorDiv(sums[c][k], members[c]);
                    }
                }
            }
        }

        private void fillEmptyCentres() {
            for (int c = 0; c < count; c++) {
                shares[c] = members[c];
            }
            for (int c = 0; c < count; c++) {
                if (members[c] == 0) {
                    splitInto(c, greatestShare());
                }
            }
        }

        private int greatestShare() {
            int best = 0;
            for (int c = 1; c < count; c++) {
                if (shares[c] > shares[best]) {
                    best = c;
                }
            }
            return best;
        }

        private void splitInto(int empty, int big) {
            for (int k = 0; k < width; k++) {
                centres[empty][k] = centres[big][k];
            }
            centres[empty][0]++;
            shares[empty] = shares[big] / 2;
            shares[big] -= shares[empty];
        }
    }

    /** What a training or a load gave: the centres of the lists and the words of the parts. */
    private static final class Quantiser {
        private final int[][] centres = new int[MOST_LISTS][WIDTH];
        private final int[][] words = new int[MOST_PARTS * MOST_CODES][MOST_PART_WIDTH];
        private final int[] left = new int[WIDTH];
        private boolean trained;
        private int kind;
        private int lists;
        private int codes;

        void become(int itsKind, int itsLists, int itsCodes) {
            trained = true;
            kind = itsKind;
            lists = itsLists;
            codes = itsCodes;
        }

        boolean hasList(int list) {
            return trained && isWithin(list, 0, lists - 1);
        }

        boolean hasWord(int part, int number) {
            return trained && isWithin(part, 0, partsOf(kind) - 1) && isWithin(number, 0, codes - 1);
        }

        int nearestList(int[] point) {
            return nearestRow(centres, 0, lists, point, 0, WIDTH);
        }

        int nearestWord(int part, int[] rest) {
            int width = partWidthOf(kind);
            return nearestRow(words, wordRow(part, 0), codes, rest, part * width, width);
        }

        int wordDistance(int part, int number, int[] rest) {
            int width = partWidthOf(kind);
            return distance(words[wordRow(part, number)], rest, part * width, width);
        }

        void spreadWords(int part, int low, int high) {
            words[wordRow(part, 0)][0] = low;
            for (int number = 1; number < codes; number++) {
                words[wordRow(part, number)][0] = low + (high - low) * number / (codes - 1);
            }
        }

        void encode(Entry entry) {
            entry.list = nearestList(entry.turned);
            subtract(entry.turned, centres[entry.list], left);
            for (int part = 0; part < partsOf(kind); part++) {
                entry.code[part] = nearestWord(part, left);
            }
        }

        int codeAsNumber(Entry entry) {
            int sum = 0;
            int power = 1;
            for (int part = 0; part < partsOf(kind); part++) {
                sum += entry.code[part] * power;
                power *= codes;
            }
            return sum;
        }

        int codeDistance(int[] goal, Entry entry) {
            if (kind == FLAT) {
                return distance(goal, entry.turned, 0, WIDTH);
            }
            subtract(goal, centres[entry.list], left);
            int sum = 0;
            for (int part = 0; part < partsOf(kind); part++) {
                sum += wordDistance(part, entry.code[part], left);
            }
            return sum;
        }

        /** How many lists stand before this one when they are ordered for a search. */
        int listsBefore(int list, int[] goal) {
            int own = distance(centres[list], goal, 0, WIDTH);
            int before = 0;
            for (int other = 0; other < lists; other++) {
                int next = distance(centres[other], goal, 0, WIDTH);
                if (next < own || next == own && other < list) {
                    before++;
                }
            }
            return before;
        }
    }

    private static final class Entry {
        private final int[] given = new int[WIDTH];
        private final int[] turned = new int[WIDTH];
        private final int[] code = new int[MOST_PARTS];
        private int id;
        private int list;
    }

    /** The entries by growing id, as the file and the orders of a search want them. */
    private static final class EntryTable {
        private final Entry[] rows = new Entry[MOST_ENTRIES];
        private int count;

        EntryTable() {
            for (int i = 0; i < MOST_ENTRIES; i++) {
                rows[i] = new Entry();
            }
        }

        int placeOf(int id) {
            for (int i = 0; i < count; i++) {
                if (rows[i].id == id) {
                    return i;
                }
            }
            return NONE;
        }

        int countInList(int list) {
            int sum = 0;
            for (int i = 0; i < count; i++) {
                if (rows[i].list == list) {
                    sum++;
                }
            }
            return sum;
        }

        /** Moves a spare row to the place of a new id and answers that place; asked only while there is one. */
        int makeRoom(int id) {
            Entry spare = rows[count];
            spare.id = id;
            int place = count;
            while (place > 0 && rows[place - 1].id > id) {
                rows[place] = rows[place - 1];
                place--;
            }
            rows[place] = spare;
            count++;
            return place;
        }

        /** The row goes behind the others, so that it can be used again. */
        void drop(int place) {
            Entry spare = rows[place];
            count--;
            for (int i = place; i < count; i++) {
                rows[i] = rows[i + 1];
            }
            rows[count] = spare;
        }
    }

    /** A search, and its results until the next one. */
    private static final class Finder {
        private final int[] given = new int[WIDTH];
        private final int[] goal = new int[WIDTH];
        private final int[] places = new int[MOST_ENTRIES];
        private final int[] distances = new int[MOST_ENTRIES];
        private final int[] ids = new int[MOST_ENTRIES];
        private int probes = 1;
        private int refine = 0;
        private int looked;
        private int results;

        boolean hasResult(int r) {
            return isWithin(r, 0, results - 1);
        }

        void find(Quantiser quantiser, EntryTable table, int k) {
            lookThrough(quantiser, table);
            sort(looked);
            if (refine > 0) {
                int taken = Math.min(k * refine, looked);
                measure(table, taken);
                sort(taken);
            }
            results = Math.min(k, looked);
            keepIds(table);
        }

        private void lookThrough(Quantiser quantiser, EntryTable table) {
            looked = 0;
            for (int i = 0; i < table.count; i++) {
                Entry entry = table.rows[i];
                if (quantiser.listsBefore(entry.list, goal) < probes) {
                    places[looked] = i;
                    distances[looked] = quantiser.codeDistance(goal, entry);
                    looked++;
                }
            }
        }

        private void measure(EntryTable table, int taken) {
            for (int i = 0; i < taken; i++) {
                distances[i] = distance(goal, table.rows[places[i]].turned, 0, WIDTH);
            }
        }

        private void sort(int size) {
            for (int i = 1; i < size; i++) {
                int place = places[i];
                int far = distances[i];
                int to = i;
                while (to > 0 && isBefore(far, place, to - 1)) {
                    places[to] = places[to - 1];
                    distances[to] = distances[to - 1];
                    to--;
                }
                places[to] = place;
                distances[to] = far;
            }
        }

        /** Places grow with ids, so that they settle equal distances as ids do. */
        private boolean isBefore(int far, int place, int other) {
            return far < distances[other] || far == distances[other] && place < places[other];
        }

        /** An entry may be taken away while the results stay. */
        private void keepIds(EntryTable table) {
            for (int i = 0; i < results; i++) {
                ids[i] = table.rows[places[i]].id;
            }
        }
    }

    /** The bytes of the file, and where a well-formed file has what. */
    private static final class ByteFile {
        private static final int MOST_BYTES = 250;
        private static final int MARK = 86;
        private static final int VERSION = 1;
        private static final int KIND = 2;
        private static final int LISTS = 3;
        private static final int CODES = 4;
        private static final int ENTRIES = 5;
        private static final int TURN = 6;
        private static final int HEAD = 10;
        private static final int TURN_SHIFT = 4;
        private static final int WIDE_REACH = 300;
        private static final int ENTRY_SIZE = 6;
        private static final int CHECK_DIVISOR = 251;

        private final int[] bytes = new int[MOST_BYTES];
        private int length;

        void put(int b) {
            if (length < MOST_BYTES) {
                bytes[length] = b;
                length++;
            }
        }

        void putPair(int value) {
            put(value / 256);
            put(value % 256);
        }

        int checkOf(int end) {
            int sum = 0;
            for (int p = 0; p < end; p++) {
                sum += bytes[p] * (p + 1);
            }
            return sum % CHECK_DIVISOR;
        }

        int step(int k) {
            return bytes[TURN + k] - TURN_SHIFT;
        }

        /** A coordinate of a centre or word, counted through from the first centre on. */
        int wide(int number) {
            return pairAt(HEAD + 2 * number) - WIDE_REACH;
        }

        int entryId(int entry) {
            return pairAt(entryStart(entry));
        }

        int entryCoordinate(int entry, int k) {
            return bytes[entryStart(entry) + 2 + k] - POINT_REACH;
        }

        /** The number of the first reason to refuse the file, 0 when it is well-formed. */
        int fault() {
            if (length < HEAD + 1) {
                return 1;
            }
            if (bytes[0] != MARK) {
                return 2;
            }
            if (bytes[1] != VERSION) {
                return 3;
            }
            if (!hasSizes()) {
                return 4;
            }
            if (!Turn.allows(step(0), step(1), step(2), step(3))) {
                return 5;
            }
            // From here on the sizes are in their ranges, and this keeps every place below inside the file.
            if (length != entryStart(bytes[ENTRIES]) + 1) {
                return 6;
            }
            if (bytes[length - 1] != checkOf(length - 1)) {
                return 7;
            }
            if (!hasWides()) {
                return 8;
            }
            return hasEntries() ? 0 : 9;
        }

        private boolean hasSizes() {
            return isWithin(bytes[KIND], PRODUCT, FLAT) && isWithin(bytes[LISTS], 1, MOST_LISTS)
                    && isWithin(bytes[CODES], 1, MOST_CODES) && isWithin(bytes[ENTRIES], 0, MOST_ENTRIES);
        }

        /** The parts of either kind share out all coordinates: a word of each part makes a whole point. */
        private int wideCount() {
            int rows = bytes[KIND] == FLAT ? bytes[LISTS] : bytes[LISTS] + bytes[CODES];
            return rows * WIDTH;
        }

        private int entryStart(int entry) {
            return HEAD + 2 * wideCount() + ENTRY_SIZE * entry;
        }

        private int pairAt(int p) {
            return bytes[p] * 256 + bytes[p + 1];
        }

        private boolean hasWides() {
            for (int number = 0; number < wideCount(); number++) {
                if (wide(number) > WIDE_REACH) {
                    return false;
                }
            }
            return true;
        }

        private boolean hasEntries() {
            int idBefore = NONE;
            for (int entry = 0; entry < bytes[ENTRIES]; entry++) {
                int id = entryId(entry);
                if (id > GREATEST_ID || id <= idBefore || !hasPoint(entry)) {
                    return false;
                }
                idBefore = id;
            }
            return true;
        }

        private boolean hasPoint(int entry) {
            for (int k = 0; k < WIDTH; k++) {
                if (entryCoordinate(entry, k) > POINT_REACH) {
                    return false;
                }
            }
            return true;
        }
    }
}
