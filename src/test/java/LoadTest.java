/** Promise 21 (load). */
final class LoadTest {
    private static final int NONE = QuantisedLists.NONE;
    /** PRODUCT, lists at 0 and (300, -300, 0, 0), two words a part, the entries 3, 258 and 999; without the CHECK. */
    private static final int[] GOOD = {86, 1, 0, 2, 2, 3, 3, 6, 7, 8,
        1, 44, 1, 44, 1, 44, 1, 44, 2, 88, 0, 0, 1, 44, 1, 44,
        1, 44, 1, 44, 1, 54, 1, 44, 1, 44, 1, 44, 1, 44, 1, 64,
        0, 3, 100, 100, 100, 100, 1, 2, 0, 0, 200, 200, 3, 231, 91, 100, 100, 119};
    private static final int FIRST_ENTRY = 42;

    public static void main(String[] args) {
        wellFormed();
        replacesAll();
        whatStays();
        faultOfEachByte();
        faultsOfTheHead();
        faultOfTheTurn();
        faultOfTheLength();
        faultOfTheCheck();
        faultOfACoordinate();
        faultOfAnEntry();
        theFirstFaultCounts();
        refusedChangesNothing();
        savedAndLoaded();
        Check.end();
    }

    private static void loads(String what, int want, int... bytes) {
        QuantisedLists index = new QuantisedLists();
        Looks.writeFile(index, bytes);
        Check.due("load of " + what, index.load(), want);
        Check.due("save after load of " + what, index.save(), want == 0 ? bytes.length : NONE);
    }

    private static int[] with(int place, int b) {
        int[] all = GOOD.clone();
        all[place] = b;
        return all;
    }

    private static void oneByte(String what, int want, int place, int b) {
        loads(what + " " + b, want, Looks.checked(with(place, b)));
    }

    private static void wellFormed() {
        QuantisedLists index = new QuantisedLists();
        Looks.writeFile(index, Looks.checked(GOOD));
        Check.due("load()", index.load(), 0);
        Check.due("centres", Looks.centres(index), "0,0,0,0 300,-300,0,0");
        Check.due("words", Looks.words(index), "0,0 10,0 / 0,0 0,20");
        Check.due("listOf(3)", index.listOf(3), 0);
        Check.due("codeOf(3)", index.codeOf(3), 0);
        // (-100, -100, 100, 100) turned is (100, -100, 100, 100): 40000 from list 0, 100000 from list 1
        Check.due("listOf(258)", index.listOf(258), 0);
        Check.due("codeOf(258)", index.codeOf(258), 3);
        // (-9, 0, 0, 19) turned is (9, 0, 0, 19)
        Check.due("codeOf(999)", index.codeOf(999), 3);
        Check.due("entries(0)", index.entries(0), 3);
        Check.due("entries(1)", index.entries(1), 0);
        Check.due("entries(2)", index.entries(2), NONE);
        Check.due("add", index.add(5, -100, -100, 0, 0), 0);
        Check.due("add of 258", index.add(258, 0, 0, 0, 0), -4);
        Check.due("search", index.search(-9, 0, 0, 20, 2), 2);
        Check.due("results", Looks.results(index), "258:1 999:1");
        Check.due("train without sample", index.train(1, 0, 1, 0), -1);
        Check.due("save()", index.save(), 67);
    }

    private static void replacesAll() {
        QuantisedLists index = Looks.withSamples(1, 1, 1, 1, 50, 50, 50, 50);
        index.train(4, 1, 4, 1);
        index.add(3, 100, 100, 100, 100);
        index.add(4, 100, 100, 100, 100);
        Looks.writeFile(index, Looks.checked(GOOD));
        Check.due("load()", index.load(), 0);
        Check.due("centres", Looks.centres(index), "0,0,0,0 300,-300,0,0");
        Check.due("words", Looks.words(index), "0,0 10,0 / 0,0 0,20");
        Check.due("listOf(4)", index.listOf(4), NONE);
        Check.due("entries(0)", index.entries(0), 3);
        Check.due("search", index.search(0, 0, 0, 0, 1), 1);
        Check.due("results", Looks.results(index), "3:0");
        Check.due("train with entries of the file", index.train(1, 2, 1, 0), -2);
        index.remove(3);
        index.remove(258);
        index.remove(999);
        Check.due("train with the samples of before", index.train(1, 2, 1, 0), 0);
        Check.due("centres by the turn of the file", Looks.centres(index), "-1,1,1,1");
    }

    private static void whatStays() {
        QuantisedLists index = Looks.withSamples(0, 0, 0, 0);
        index.train(1, 1, 1, 0);
        index.add(1, 5, 0, 0, 0);
        index.effort(2, 3);
        index.search(4, 0, 0, 0, 1);
        Looks.writeFile(index, Looks.checked(GOOD));
        String file = Looks.bytes(index);
        Check.due("load()", index.load(), 0);
        Check.due("bytes", Looks.bytes(index), file);
        Check.due("results", Looks.results(index), "1:1");
        Check.due("scanned()", index.scanned(), 1);
        Check.due("load() again", index.load(), 0);
        index.search(-9, 0, 0, 18, 1);
        Check.due("results by the REFINE of before", Looks.results(index), "999:1");
        Check.due("scanned by the PROBES of before", index.scanned(), 3);
    }

    private static void faultOfEachByte() {
        QuantisedLists index = new QuantisedLists();
        for (int length = 0; length <= 10; length++) {
            Looks.writeFile(index, java.util.Arrays.copyOf(GOOD, length));
            Check.due("load of " + length + " bytes", index.load(), 1);
        }
        Looks.writeFile(index, java.util.Arrays.copyOf(GOOD, 11));
        Check.due("load of 11 bytes", index.load(), 6);
        loads("eleven wrong bytes", 2, 0, 0, 0, 0, 0, 0, 0, 0, 0, 0, 0);
        loads("ten wrong bytes", 1, 0, 0, 0, 0, 0, 0, 0, 0, 0, 0);
    }

    private static void faultsOfTheHead() {
        oneByte("byte 0", 2, 0, 85);
        oneByte("byte 0", 2, 0, 87);
        oneByte("byte 1", 3, 1, 0);
        oneByte("byte 1", 3, 1, 2);
        oneByte("kind", 4, 2, 3);
        oneByte("kind", 4, 2, 255);
        oneByte("lists", 4, 3, 0);
        oneByte("lists", 4, 3, 5);
        oneByte("lists", 6, 3, 1);
        oneByte("lists", 6, 3, 4);
        oneByte("codes", 4, 4, 0);
        oneByte("codes", 4, 4, 5);
        oneByte("codes", 6, 4, 1);
        oneByte("codes", 6, 4, 4);
        oneByte("entries", 4, 5, 21);
        oneByte("entries", 4, 5, 255);
        oneByte("entries", 6, 5, 20);
        oneByte("entries", 6, 5, 0);
        int[] flat = {86, 1, 2, 1, 4, 0, 5, 6, 7, 8, 1, 44, 1, 44, 1, 44, 1, 44};
        loads("FLAT", 0, Looks.checked(flat));
        flat[4] = 5;
        loads("FLAT with 5 codes", 4, Looks.checked(flat));
        flat[4] = 0;
        loads("FLAT without codes", 4, Looks.checked(flat));
    }

    private static void faultOfTheTurn() {
        for (int place = 6; place < 10; place++) {
            int axis = place == 6 ? 1 : place - 5;
            for (int b = 0; b <= 255; b++) {
                oneByte("byte of turn " + (place - 6), Math.abs(b - 4) == axis ? 0 : 5, place, b);
            }
        }
    }

    private static void faultOfTheLength() {
        loads("a byte too few", 6, java.util.Arrays.copyOf(GOOD, GOOD.length));
        int[] tooMany = Looks.checked(Looks.checked(GOOD));
        loads("a byte too many", 6, tooMany);
        loads("an entry too few", 6, Looks.checked(java.util.Arrays.copyOf(GOOD, GOOD.length - 6)));
        oneByte("another kind of the same length", 0, 2, 1);
        oneByte("FLAT with words", 6, 2, 2);
    }

    private static void faultOfTheCheck() {
        int[] good = Looks.checked(GOOD);
        for (int b = 0; b <= 255; b++) {
            int[] file = good.clone();
            file[file.length - 1] = b;
            loads("the CHECK " + b, b == good[good.length - 1] ? 0 : 7, file);
        }
        int[] changed = good.clone();
        changed[FIRST_ENTRY + 2] = 101;
        loads("another point with the CHECK of before", 7, changed);
    }

    private static void faultOfACoordinate() {
        for (int place = 10; place < FIRST_ENTRY; place += 2) {
            int[] file = with(place, 2);
            file[place + 1] = 88;
            loads("300 at " + place, 0, Looks.checked(file));
            file[place + 1] = 89;
            loads("301 at " + place, 8, Looks.checked(file));
            file[place] = 255;
            file[place + 1] = 255;
            loads("65235 at " + place, 8, Looks.checked(file));
            file[place] = 3;
            file[place + 1] = 0;
            loads("468 at " + place, 8, Looks.checked(file));
            file[place] = 0;
            loads("-300 at " + place, 0, Looks.checked(file));
        }
    }

    private static void faultOfAnEntry() {
        oneByte("least id", 0, FIRST_ENTRY + 1, 0);
        oneByte("last id 1000", 9, FIRST_ENTRY + 13, 232);
        oneByte("last id 1023", 9, FIRST_ENTRY + 13, 255);
        oneByte("last id 231", 9, FIRST_ENTRY + 12, 0);
        oneByte("first id 259", 9, FIRST_ENTRY, 1);
        int[] equal = with(FIRST_ENTRY, 1);
        equal[FIRST_ENTRY + 1] = 2;
        loads("ids 258, 258, 999", 9, Looks.checked(equal));
        equal[FIRST_ENTRY + 1] = 1;
        loads("ids 257, 258, 999", 0, Looks.checked(equal));
        for (int entry = 0; entry < 3; entry++) {
            for (int k = 0; k < 4; k++) {
                int place = FIRST_ENTRY + 6 * entry + 2 + k;
                oneByte("coordinate at " + place, 0, place, 0);
                oneByte("coordinate at " + place, 0, place, 200);
                oneByte("coordinate at " + place, 9, place, 201);
                oneByte("coordinate at " + place, 9, place, 255);
            }
        }
    }

    /** A file with all faults is mended one by one. */
    private static void theFirstFaultCounts() {
        int[] file = Looks.checked(GOOD);
        int right = file[file.length - 1];
        QuantisedLists index = new QuantisedLists();
        file[0] = 0;
        file[1] = 0;
        file[4] = 5;
        file[7] = 4;
        file[12] = 9;
        file[FIRST_ENTRY + 3] = 255;
        file[file.length - 1] = 252;
        Looks.writeFile(index, file);
        index.alter(file.length, 0);
        Check.due("load with all faults but the first", index.load(), 2);
        index.alter(0, 86);
        Check.due("load with all faults from 3", index.load(), 3);
        index.alter(1, 1);
        Check.due("load with all faults from 4", index.load(), 4);
        index.alter(4, 2);
        Check.due("load with all faults from 5", index.load(), 5);
        index.alter(7, 6);
        Check.due("load with all faults from 6", index.load(), 6);
        index.cut(file.length);
        Check.due("load with all faults from 7", index.load(), 7);
        // 8 more at place 12 and 155 more at place 45 weigh 8 * 13 and 155 * 46
        index.alter(file.length - 1, (right + 8 * 13 + 155 * 46) % 251);
        Check.due("load with the faults 8 and 9", index.load(), 8);
        index.alter(12, 1);
        index.alter(file.length - 1, (right + 155 * 46) % 251);
        Check.due("load with fault 9", index.load(), 9);
    }

    private static void refusedChangesNothing() {
        int[][] wrong = {Looks.checked(with(6, 7)), Looks.checked(with(FIRST_ENTRY + 2, 201)),
            Looks.checked(with(FIRST_ENTRY + 14, 201)), Looks.checked(with(40, 9)), Looks.checked(with(4, 1)), GOOD};
        for (int[] bytes : wrong) {
            QuantisedLists index = Looks.withSamples(1, 2, 3, 4, 50, 50, 50, 50);
            index.turn(2, 1, 3, 4);
            Looks.writeFile(index, bytes);
            Check.due("load that is refused is not 0", index.load() != 0, true);
            Check.due("search when not trained", index.search(0, 0, 0, 0, 1), -1);
            index.train(2, 1, 2, 0);
            index.add(3, 50, 51, 50, 50);
            index.add(8, 0, 0, 0, 0);
            index.search(1, 0, 0, 0, 8);
            Check.due("load that is refused is not 0", index.load() != 0, true);
            Check.due("centres", Looks.centres(index), "2,1,3,4 50,50,50,50");
            Check.due("words", Looks.words(index), "0 0 / 0 0 / 0 0 / 0 0");
            Check.due("listOf(3)", index.listOf(3), 1);
            Check.due("listOf(8)", index.listOf(8), 0);
            Check.due("listOf(999)", index.listOf(999), NONE);
            Check.due("results", Looks.results(index), "8:29");
            Check.due("bytes", Looks.bytes(index), java.util.Arrays.toString(bytes).replaceAll("[\\[\\],]", ""));
        }
    }

    private static void savedAndLoaded() {
        QuantisedLists index = Looks.withSamples(0, 0, 0, 0, 4, 0, 0, 0, 0, 0, 6, 0, 4, 0, 6, 1);
        index.train(2, 0, 3, 2);
        index.add(11, 1, 2, 3, 4);
        index.add(7, -4, 9, 5, 0);
        String centres = Looks.centres(index);
        String words = Looks.words(index);
        int list = index.listOf(7);
        int code = index.codeOf(7);
        index.save();
        String file = Looks.bytes(index);
        index.remove(7);
        index.remove(11);
        index.train(4, 1, 2, 0);
        index.add(1, 0, 0, 0, 0);
        Check.due("load()", index.load(), 0);
        Check.due("centres", Looks.centres(index), centres);
        Check.due("words", Looks.words(index), words);
        Check.due("listOf(7)", index.listOf(7), list);
        Check.due("codeOf(7)", index.codeOf(7), code);
        Check.due("listOf(1)", index.listOf(1), NONE);
        index.save();
        Check.due("bytes", Looks.bytes(index), file);
    }
}
