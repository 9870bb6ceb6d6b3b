import java.lang.management.ManagementFactory;
import java.nio.charset.StandardCharsets;

/** One room for a whole run: what runs of 512 calls make is far below 7.3 million elements. */
public final class RoomTest {
    /** Room is told in elements; a byte each is the strictest way to count them. */
    private static final long MOST_BYTES = 1_000_000;

    public static void main(String[] args) {
        com.sun.management.ThreadMXBean beans = (com.sun.management.ThreadMXBean) ManagementFactory.getThreadMXBean();
        long me = Thread.currentThread().getId();
        run(0);
        boolean fine = true;
        for (int kind = 0; kind < 4; kind++) {
            long before = beans.getThreadAllocatedBytes(me);
            run(kind);
            long made = beans.getThreadAllocatedBytes(me) - before;
            System.out.println("RoomTest: kind " + kind + " made " + made + " bytes");
            fine &= made < MOST_BYTES;
        }
        if (!fine) {
            System.exit(1);
        }
    }

    private static void run(int kind) {
        LateGlass g = new LateGlass();
        for (int i = 0; i < 5; i++) {
            g.body();
            g.stay(i, 3 * i, 23, 11 * i + 7);
            g.glass(9 * i + 5, i, 1, 1);
            g.sighting(9 * i, 1, 4 * i + 3, 1);
            g.sighting(9 * i, 2, 4 * i + 2, 0);
            g.spot(9 * i + 8, i, 2);
            g.wish(8 * i, 1, 20, 8 * i + 7, 20, 0);
        }
        for (int i = 0; i < 90; i++) {
            switch (kind) {
                case 0:
                    law(g, "late x+y*hour/2 if not (body<3 and steps>2);dust 1;covers if bright<5;clear if way=1");
                    g.back(0);
                    g.image(0);
                    break;
                case 1:
                    g.fits();
                    g.could(i % 24, -1);
                    g.path(i % 24);
                    g.core();
                    g.tells(i % 64, i % 4, i % 24);
                    break;
                case 2:
                    g.hang(i % 3);
                    g.unseen(i % 64);
                    g.wander(i, i % 64);
                    g.image(i % 2);
                    g.back(i % 2);
                    break;
                default:
                    g.soonest(i % 5, i % 64, i % 24);
                    g.way(i % 5, i % 64, i % 24, 23);
                    g.sooner(i % 5, i % 64, i % 24, 0);
                    g.first(i % 5, 0);
                    break;
            }
        }
    }

    private static void law(LateGlass g, String text) {
        byte[] bytes = text.getBytes(StandardCharsets.ISO_8859_1);
        for (int i = 0; i < bytes.length; i += 20) {
            int[] five = new int[5];
            for (int k = 0; k < 20; k++) {
                five[k / 4] = five[k / 4] << 8 | (i + k < bytes.length ? bytes[i + k] : 32);
            }
            g.feed(five[0], five[1], five[2], five[3], five[4]);
        }
        g.law();
    }
}
