import com.sun.management.ThreadMXBean;
import java.lang.management.ManagementFactory;

/** What the 512 calls of an object make: all calls of a run live in one room, which has 7.3 million fields in all. */
public final class RoomTest extends Scanners {
    private static final int MOST_CALLS = 512;
    /** A hundredth of the room, of which a field takes at least four bytes. */
    private static final long MOST_BYTES = 4 * 73_000;
    private static final String LONG_LINE = "ae ae ae ae ae ae ae ae ae ae ae ae,";

    private RoomTest() {
    }

    public static void main(String[] args) {
        for (int round = 0; round < 2; round++) {
            // what the first round makes includes the classes that the machine loads
            boolean isCounted = round == 1;
            keepsToRoom("new objects alone", isCounted, RoomTest::ready, x -> { });
            keepsToRoom("feed and addLine", isCounted, VerseScanner::new, RoomTest::fillDrafts);
            keepsToRoom("feed and readException", isCounted, VerseScanner::new, RoomTest::readExceptions);
            keepsToRoom("changes", isCounted, RoomTest::ready, RoomTest::change);
            keepsToRoom("suits", isCounted, RoomTest::ready, x -> repeat(() -> x.suits(0)));
            keepsToRoom("account", isCounted, RoomTest::ready, x -> repeat(() -> x.account(0, 6)));
            keepsToRoom("meanCost", isCounted, RoomTest::ready, x -> repeat(() -> x.meanCost(0)));
            keepsToRoom("scan", isCounted, RoomTest::ready, x -> repeat(() -> x.scan(0, 9, 5)));
            keepsToRoom("classes", isCounted, RoomTest::ready, x -> repeat(() -> x.line(0, 9, 5)));
            keepsToRoom("difference", isCounted, RoomTest::ready, x -> repeat(() -> x.difference(0, 1)));
            keepsToRoom("save", isCounted, RoomTest::ready, x -> repeat(() -> x.save() + x.restore()));
        }
        Due.end();
    }

    private static void repeat(Due.Call call) {
        for (int i = 0; i < MOST_CALLS; i++) {
            Due.outcome(call);
        }
    }

    private static void keepsToRoom(String calls, boolean isCounted, Maker maker, Change made) {
        ThreadMXBean counter = (ThreadMXBean) ManagementFactory.getThreadMXBean();
        long thread = Thread.currentThread().getId();
        long before = counter.getThreadAllocatedBytes(thread);
        made.on(maker.make());
        long bytes = counter.getThreadAllocatedBytes(thread) - before;
        Due.holds(calls + " made " + bytes + " bytes", !isCounted || bytes < MOST_BYTES);
    }

    private static VerseScanner ready() {
        VerseScanner x = excepted(new VerseScanner(), "ae 11");
        x.setTolerance(30);
        x.setMetre(2, 6, 0);
        for (int i = 0; i < 10; i++) {
            added(x, 0, LONG_LINE);
        }
        return x;
    }

    private static void fillDrafts(VerseScanner x) {
        int calls = 0;
        for (int line = 0; calls + LONG_LINE.length() < MOST_CALLS; line++) {
            fed(x, LONG_LINE).addLine(line / 10, line % 10);
            calls += LONG_LINE.length() + 1;
        }
    }

    private static void readExceptions(VerseScanner x) {
        for (int i = 0; i < MOST_CALLS / 4; i++) {
            fed(x, (char) ('a' + i % 8) + " 1").readException();
        }
    }

    private static void change(VerseScanner x) {
        for (int i = 0; i < MOST_CALLS; i += 4) {
            x.setMetre(i % 3, 6, 0);
            x.copyDraft(0, 1);
            x.moveLine(0, 0, 9);
            x.undo();
        }
    }
}
