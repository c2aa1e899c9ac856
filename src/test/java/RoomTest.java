import java.lang.management.ManagementFactory;

/** 512 calls, the dearest ones among them, take hardly any room beside that of the object. */
public final class RoomTest {
    /** A room has 7.3 million fields and elements; each takes a byte at least. */
    private static final long ROOM = 7_300_000;
    private static final int CALLS_OF_A_ROUND = 16;

    public static void main(String[] args) {
        com.sun.management.ThreadMXBean bean = (com.sun.management.ThreadMXBean) ManagementFactory.getThreadMXBean();
        long thread = Thread.currentThread().getId();
        String work = "again 60[write 0 1;read 63;write 9 1;flush;];";
        int[] bytes = new int[15];
        for (int i = 0; i < 60; i++) {
            bytes[i / 4] |= (i < work.length() ? work.charAt(i) : ' ') << 8 * (3 - i % 4);
        }
        round(Check.made("tree 2 5 6;minor 1;"), bytes);
        long ahead = bean.getThreadAllocatedBytes(thread);
        FreshLines x = new FreshLines();
        long made = bean.getThreadAllocatedBytes(thread) - ahead;
        x.feed(0x74726565, 0x20322035, 0x20363B6D, 0x696E6F72, 0x20313B00);
        x.machine(19);
        ahead = bean.getThreadAllocatedBytes(thread);
        for (int calls = 2; calls + CALLS_OF_A_ROUND <= 512; calls += CALLS_OF_A_ROUND) {
            round(x, bytes);
        }
        long used = bean.getThreadAllocatedBytes(thread) - ahead;
        Check.due("a new object takes " + made + " bytes, too many", true, made < ROOM && x.told(4) == 64);
        Check.due("512 calls take " + used + " bytes, too many", true, used < ROOM);
        Check.end("RoomTest");
    }

    private static void round(FreshLines x, int[] n) {
        x.feed(n[0], n[1], n[2], n[3], n[4]);
        x.feed(n[5], n[6], n[7], n[8], n[9]);
        x.feed(n[10], n[11], n[12], n[13], n[14]);
        x.work(60);
        x.tour(1L | 1L << 9 | 1L << 20 | 1L << 41 | 1L << 63);
        x.stop(1L | 1L << 9 | 1L << 20 | 1L << 41 | 1L << 63, 4);
        x.after(5, 99, 2);
        x.least(0);
        x.reelBy(5, 0);
        x.costs(33, 1, 0);
        x.flushes(1);
        x.splices();
        x.forgeries(1);
        x.stale();
        x.losses(1);
        x.print();
    }
}
