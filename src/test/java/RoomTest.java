import com.sun.management.ThreadMXBean;
import java.lang.management.ManagementFactory;

/**
 * All calls of a run live in one room of some 600,000 objects and 7.3 million fields and elements. An
 * element takes a byte at least, and an object 16, so what is counted here in bytes is never too little.
 */
public final class RoomTest {
    private static final Check CHECK = new Check("RoomTest");
    private static final ThreadMXBean THREADS = (ThreadMXBean) ManagementFactory.getThreadMXBean();
    private static final int CALLS = 512;

    /** A run on a new object, of so many calls. */
    private interface Run {
        void calls(NearPicture x, int count);
    }

    public static void main(String[] args) {
        takes("a new object", 40_000, (x, count) -> { });
        takes("packing and unpacking the greatest picture", 1_000_000, RoomTest::packAndUnpack);
        takes("failing in DATA", 1_000_000, RoomTest::failInData);
        takes("canvases of all sizes", 600_000, RoomTest::canvases);
        takes("typing", 200_000, RoomTest::type);
        CHECK.finish();
    }

    /** The first time is not counted: it loads classes. */
    private static void takes(String what, long most, Run run) {
        run.calls(new NearPicture(), CALLS);
        long before = THREADS.getThreadAllocatedBytes(Thread.currentThread().getId());
        run.calls(new NearPicture(), CALLS);
        long taken = THREADS.getThreadAllocatedBytes(Thread.currentThread().getId()) - before;
        CHECK.holds(what + " takes " + taken + " bytes, " + most + " at most", taken <= most);
    }

    private static void drawGreatest(NearPicture x) {
        x.canvas(64, 64, 3, 16);
        for (int plane = 0; plane < 3; plane++) {
            x.draw(plane, 0, 0, 64, 64, 0, 0, 65535);
        }
    }

    private static void packAndUnpack(NearPicture x, int count) {
        drawGreatest(x);
        for (int i = 4; i + 3 <= count; i += 3) {
            x.pack(0);
            x.turn();
            x.unpack();
        }
    }

    private static void failInData(NearPicture x, int count) {
        drawGreatest(x);
        x.pack(0);
        x.end(x.turn() - 3);
        for (int i = 7; i < count; i++) {
            x.unpack();
        }
        CHECK.same("fails", x.place(), x.size() - 3);
    }

    private static void canvases(NearPicture x, int count) {
        for (int i = 0; i + 4 <= count; i += 4) {
            int side = 1 + i / 4 % 64;
            x.canvas(side, 64, 3, 16);
            x.pack(0);
            x.turn();
            x.unpack();
        }
    }

    private static void type(NearPicture x, int count) {
        for (int i = 0; i < count; i++) {
            x.feed(i, i, i, i, i);
        }
    }
}
