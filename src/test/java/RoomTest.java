import java.lang.management.ManagementFactory;

/** A run of 512 calls of any kind makes next to nothing beyond what the object was made with. */
final class RoomTest {
    private static final String SIX = "bed 9 9;night 600;awake 0;" + "sleeper 7 9 5 3 100 5;".repeat(6)
            + "wakes ((off + turns) / 2 < light) or not (hour * 3 = woken);";

    private RoomTest() {
    }

    static void run() {
        com.sun.management.ThreadMXBean threads =
                (com.sun.management.ThreadMXBean) ManagementFactory.getThreadMXBean();
        callAll(new SpoonRow());
        long before = threads.getCurrentThreadAllocatedBytes();
        SpoonRow row = new SpoonRow();
        long made = threads.getCurrentThreadAllocatedBytes() - before;
        Check.due("made with the object: " + made, made < 40000, true);
        String text = SIX;
        before = threads.getCurrentThreadAllocatedBytes();
        for (int i = 0; i < 4; i++) {
            callAll(row);
        }
        made = threads.getCurrentThreadAllocatedBytes() - before;
        // what feeding makes in the test itself is counted here, too
        Check.due("made by calls: " + made, made < 40000, true);
        Check.due("text", text.length() < 600, true);
    }

    private static void callAll(SpoonRow row) {
        Check.feed(row, SIX);
        row.bed(SIX.length());
        row.swap(0, 1);
        row.side(1);
        row.word(1, 7);
        row.bolster(3, true);
        row.out(2, 5);
        row.see(1, 5, 0);
        row.image();
        row.restore();
        for (int i = 0; i < 2; i++) {
            row.orders();
            row.order();
            row.edge();
            row.every(1, i);
            row.bolsters(i);
            row.free(i);
            row.outs(i);
            row.fair(30, i);
            row.fits(i);
            row.without(i);
            row.year(5, 40, i);
            row.night(i);
            row.woken(0, i);
            row.lies(0, 500, i);
            row.turn(20, i);
        }
        row.undo();
        row.forget();
    }
}
