import java.util.StringJoiner;

/** Short ways to set an object up and to write down what can be seen of it. */
final class Looks {
    private Looks() {
    }

    static QuantisedLists withSamples(int... coordinates) {
        QuantisedLists index = new QuantisedLists();
        giveSamples(index, coordinates);
        return index;
    }

    static void giveSamples(QuantisedLists index, int... coordinates) {
        for (int i = 0; i < coordinates.length; i += 4) {
            Check.due("sample " + i / 4, index.sample(coordinates[i], coordinates[i + 1],
                    coordinates[i + 2], coordinates[i + 3]), true);
        }
    }

    /** The centres, list by list, such as "1,2,3,4 5,6,7,8". */
    static String centres(QuantisedLists index) {
        StringJoiner all = new StringJoiner(" ");
        for (int list = 0; index.centre(list, 0) != QuantisedLists.ABSENT; list++) {
            StringJoiner one = new StringJoiner(",");
            for (int k = 0; k < 4; k++) {
                one.add(String.valueOf(index.centre(list, k)));
            }
            all.add(one.toString());
        }
        return all.toString();
    }

    /** The words, part by part, such as "0,0 1,2 / 3,4 5,6". */
    static String words(QuantisedLists index) {
        StringJoiner all = new StringJoiner(" / ");
        for (int part = 0; index.word(part, 0, 0) != QuantisedLists.ABSENT; part++) {
            StringJoiner ofPart = new StringJoiner(" ");
            for (int number = 0; index.word(part, number, 0) != QuantisedLists.ABSENT; number++) {
                StringJoiner one = new StringJoiner(",");
                for (int k = 0; index.word(part, number, k) != QuantisedLists.ABSENT; k++) {
                    one.add(String.valueOf(index.word(part, number, k)));
                }
                ofPart.add(one.toString());
            }
            all.add(ofPart.toString());
        }
        return all.toString();
    }

    /** The results, such as "7:10 9:12", each as id:distance. */
    static String results(QuantisedLists index) {
        StringJoiner all = new StringJoiner(" ");
        for (int r = 0; index.hit(r) != QuantisedLists.NONE; r++) {
            all.add(index.hit(r) + ":" + index.far(r));
        }
        return all.toString();
    }

    static String bytes(QuantisedLists index) {
        StringJoiner all = new StringJoiner(" ");
        for (int p = 0; index.byteAt(p) != QuantisedLists.NONE; p++) {
            all.add(String.valueOf(index.byteAt(p)));
        }
        return all.toString();
    }

    /** The file becomes these bytes. */
    static void writeFile(QuantisedLists index, int... bytes) {
        Check.due("cut(0)", index.cut(0), true);
        for (int p = 0; p < bytes.length; p++) {
            Check.due("alter(" + p + ", " + bytes[p] + ")", index.alter(p, bytes[p]), true);
        }
    }

    /** The bytes with the CHECK behind them. */
    static int[] checked(int... bytes) {
        int[] all = java.util.Arrays.copyOf(bytes, bytes.length + 1);
        long sum = 0;
        for (int p = 0; p < bytes.length; p++) {
            sum += (long) bytes[p] * (p + 1);
        }
        all[bytes.length] = (int) (sum % 251);
        return all;
    }
}
