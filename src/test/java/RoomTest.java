import com.sun.management.ThreadMXBean;
import java.lang.management.ManagementFactory;

/** All calls of a run live in one room: an object must make its rows once, and its calls hardly anything. */
public final class RoomTest {
    // 7.3 million fields and elements are some 30 million bytes, if most are ints.
    private static final long MOST_BYTES = 8_000_000;

    public static void main(String[] args) {
        ThreadMXBean beans = (ThreadMXBean) ManagementFactory.getThreadMXBean();
        long thread = Thread.currentThread().getId();
        Check c = Check.full("room");
        long begin = beans.getThreadAllocatedBytes(thread);
        TongueHouse x = new TongueHouse();
        c.due("bytes of a new object", beans.getThreadAllocatedBytes(thread) - begin < MOST_BYTES ? 1 : 0, 1);
        begin = beans.getThreadAllocatedBytes(thread);
        for (int i = 0; i < 24; i++) {
            // "the dog runs dogs a ", "the dog and the dog ", "tongue t; lin det=1;"
            c.x.feed(0x74686520, 0x646f6720, 0x72756e73, 0x20646f67, 0x73206120);
            c.x.mend(0, 6);
            c.x.feed(0x74686520, 0x646f6720, 0x616e6420, 0x74686520, 0x646f6720);
            c.x.swap(0, 4, 1);
            c.x.feed(0x746f6e67, 0x75652074, 0x3b206c69, 0x6e206465, 0x743d313b);
            c.x.module();
            c.x.feed(0x74686520, 0x646f6720, 0x616e6420, 0x74686520, 0x646f6720);
            c.x.add(0);
            c.x.feed(0x6e202020, 0x20202020, 0x20202020, 0x20202020, 0x20202020);
            c.x.ask(0);
            c.x.reading(0, 0);
            c.x.say(0, 0, 0);
            c.x.mean(0);
            c.x.truth(0);
            c.x.show(0);
        }
        c.due("bytes of 360 calls", beans.getThreadAllocatedBytes(thread) - begin < MOST_BYTES ? 1 : 0, 1);
        c.due("it still answers", x.count(0, 0), 0);
        Check.finish();
    }
}
