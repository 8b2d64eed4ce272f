import java.lang.management.ManagementFactory;

/** What an object and its 512 calls take of the room that all calls of a run share. */
public final class RoomTest {
    private static final String DEEP = "above row 2 turn plain 1 1 above flip beside plain 1 1 plain 1 1"
        + " over over plain 2 1 plain 2 1 set 2 1 1 plain 2 1";

    private RoomTest() {
    }

    public static void main(String[] args) {
        com.sun.management.ThreadMXBean bean = (com.sun.management.ThreadMXBean) ManagementFactory.getThreadMXBean();
        useAll(new ThresholdLines(8, 8));
        long before = bean.getCurrentThreadAllocatedBytes();
        ThresholdLines x = new ThresholdLines(8, 8);
        long made = bean.getCurrentThreadAllocatedBytes() - before;
        // Four bytes an element: an object stays under five thousand, so over a thousand have room.
        Check.due("bytes of a new object: " + made, made < 20_000, true);
        before = bean.getCurrentThreadAllocatedBytes();
        useAll(x);
        long first = bean.getCurrentThreadAllocatedBytes() - before;
        Check.due("bytes of the first calls, eight shelves among them: " + first, first < 8 * 700, true);
        before = bean.getCurrentThreadAllocatedBytes();
        for (int n = 0; n < 16; n++) {
            useAll(x);
        }
        long later = bean.getCurrentThreadAllocatedBytes() - before;
        Check.due("bytes of later calls: " + later, later < 500, true);
        Check.finish();
    }

    private static final int[] WORDS = words();

    private static int[] words() {
        int[] words = new int[30];
        for (int n = 0; n < 120; n++) {
            words[n / 4] |= (n < DEEP.length() ? DEEP.charAt(n) : ' ') << (24 - 8 * (n % 4));
        }
        return words;
    }

    private static void useAll(ThresholdLines x) {
        for (int n = 0; n < 30; n += 5) {
            x.feed(WORDS[n], WORDS[n + 1], WORDS[n + 2], WORDS[n + 3], WORDS[n + 4]);
        }
        Check.due("dots of the deep one", x.draw(), 6);
        for (int shelf = 0; shelf < 8; shelf++) {
            x.keep(shelf);
        }
        x.feed(0x61626364, 0, 0, 0, 0);
        x.end(4);
        x.back(8, 8, 1, 0);
        x.set(2, 3, 1);
        x.pin(2, 3, true);
        x.lines();
        x.line(0, 2);
        x.line(0, 4);
        x.walk(0, 3);
        x.coloured(3, true);
        x.joined(0);
        x.change(0, 0);
        x.join();
        x.like(3, 1);
        x.alike();
        x.about(6);
    }
}
