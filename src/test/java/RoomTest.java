import com.sun.management.ThreadMXBean;
import java.lang.management.ManagementFactory;
import java.util.function.ObjIntConsumer;

/**
 * All calls of one run live in one room, of some 600,000 objects and 7.3 million fields and elements.
 * What a run makes is counted in bytes here, four for each of these millions.
 */
public final class RoomTest {
    private static final long ROOM = 4 * 7_300_000L;
    private static final int CALLS = 350;

    private static int wrong = 0;

    private RoomTest() {}

    /** As many FIELDS, GROUPS and EVENTS as one program can well make, with 32 USES for all of its SLOTS; some 150 calls. */
    private static ShapeReports large() {
        ShapeReports x = new ShapeReports();
        x.item(1, 2, 31);
        x.item(1, 7, 5);
        x.item(1, 9, 16);
        for (int g = 0; g < 12; g++) x.item(0, 10, 0);
        for (int i = 0; i < 3; i++) {
            x.item(2, 2, 31);
            x.item(0, 8, 0);
        }
        for (int g = 0; g < 12; g++) x.item(0, 12, 0);
        while (x.count(3) < 96) x.say(Codes.NOTHING);
        boolean isRead = x.read() == 48;
        for (int b = 0; b < 30; b++) x.put(b * 37 % 256);
        boolean came = x.come() > 0;
        if (!isRead || !came) throw new IllegalStateException("the large device does not stand");
        return x;
    }

    private static void run(String name, ObjIntConsumer<ShapeReports> call) {
        ThreadMXBean threads = (ThreadMXBean) ManagementFactory.getThreadMXBean();
        long thread = Thread.currentThread().getId();
        long before = threads.getThreadAllocatedBytes(thread);
        ShapeReports x = large();
        for (int i = 0; i < CALLS; i++) call.accept(x, i);
        long made = threads.getThreadAllocatedBytes(thread) - before;
        if (made > ROOM) {
            wrong++;
            System.out.println("a run with " + CALLS + " calls of " + name + " made " + made + " bytes of objects");
        }
    }

    public static void main(String[] args) {
        run("say and wipe", (x, i) -> { if (i % 97 < 96) x.say(i % 256); else x.wipe(); });
        run("item", (x, i) -> { if (i % 40 == 0) x.wipe(); else x.item(i % 3, i % 16, i); });
        run("read", (x, i) -> x.read());
        run("fault", (x, i) -> x.fault(i % 3));
        run("written", (x, i) -> x.written(i % 40, i % 10 - 1));
        run("field", (x, i) -> x.field(i % 48, i % 12));
        run("group", (x, i) -> x.group(i % 12, 3));
        run("put and come", (x, i) -> { if (i % 31 < 30) x.put(i * 53 % 256); else x.come(); });
        run("event and next", (x, i) -> { if (i % 2 == 0) x.event(i % 3); else x.next(); });
        run("last", (x, i) -> x.last(i % 48));
        run("want and made", (x, i) -> { if (i % 2 == 0) x.want(i % 48, 1); else x.made(1, 0, i % 33 - 1); });
        run("image", (x, i) -> x.image(i % 2));
        run("image and restore", (x, i) -> { if (i % 2 == 0) x.image(i % 4 / 2); else x.restore(i % 4 / 2); });
        System.out.println(wrong == 0 ? "all runs stay within the room" : wrong + " runs do not");
        if (wrong != 0) System.exit(1);
    }
}
