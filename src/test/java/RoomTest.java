import com.sun.management.ThreadMXBean;
import java.lang.management.ManagementFactory;

/** All calls of a run live in one room: no call makes an object, and a new object is small. */
final class RoomTest {
    private static final int RUNS = 200;
    private static final int MOST_BYTES_OF_A_NEW_OBJECT = 20_000;

    public static void main(String[] args) {
        if (ManagementFactory.getThreadMXBean() instanceof ThreadMXBean bean
                && bean.isThreadAllocatedMemorySupported() && bean.isThreadAllocatedMemoryEnabled()) {
            measure(bean);
        } else {
            System.out.println("this machine does not count what is made");
        }
        Check.end();
    }

    private static void measure(ThreadMXBean bean) {
        long thread = Thread.currentThread().getId();
        QuantisedLists[] all = new QuantisedLists[RUNS];
        manyCalls(new QuantisedLists());
        bean.getThreadAllocatedBytes(thread);
        long start = bean.getThreadAllocatedBytes(thread);
        for (int i = 0; i < RUNS; i++) {
            all[i] = new QuantisedLists();
        }
        long made = bean.getThreadAllocatedBytes(thread);
        for (int i = 0; i < RUNS; i++) {
            manyCalls(all[i]);
        }
        long end = bean.getThreadAllocatedBytes(thread);
        Check.due("a new object takes " + (made - start) / RUNS + " bytes, and this is too much",
                (made - start) / RUNS > MOST_BYTES_OF_A_NEW_OBJECT, false);
        Check.due("bytes made by the calls of a run", (end - made) / RUNS, 0);
    }

    private static void manyCalls(QuantisedLists index) {
        index.turn(2, -1, 4, 3);
        for (int i = 0; i < 24; i++) {
            index.sample(i * 4, -i, i * i % 50, 7 - i);
        }
        for (int kind = 0; kind <= 2; kind++) {
            index.train(4, kind, 4, 8);
            for (int i = 0; i < 20; i++) {
                index.add(i * 37 % 100, i, -i, i * 3, 5);
            }
            index.effort(4, 3);
            index.search(1, 2, 3, 4, 8);
            index.save();
            index.load();
            for (int r = 0; r < 8; r++) {
                index.codeOf(index.hit(r));
                index.listOf(index.far(r));
            }
            index.entries(index.scanned() % 4);
            index.centre(1, 1);
            index.word(0, 0, 0);
            for (int i = 0; i < 20; i++) {
                index.remove(i * 37 % 100);
            }
        }
        index.alter(3, index.byteAt(4));
        index.load();
        index.cut(5);
    }
}
