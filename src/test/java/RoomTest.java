import com.sun.management.ThreadMXBean;
import java.lang.management.ManagementFactory;
import java.util.Random;

/** No call makes objects: all rows are made with the object, and there are few of them. */
public final class RoomTest {
    private static int sum;

    private RoomTest() {
    }

    public static void main(String[] args) {
        ThreadMXBean threads = (ThreadMXBean) ManagementFactory.getThreadMXBean();
        long id = Thread.currentThread().getId();
        String text = Texts.madeUp(new Random(5));
        int[][] feeds = Texts.feeds(text).toArray(new int[0][]);
        run(new SchoolLosing(), feeds);
        long before = threads.getThreadAllocatedBytes(id);
        SchoolLosing school = new SchoolLosing();
        long made = threads.getThreadAllocatedBytes(id);
        run(school, feeds);
        long after = threads.getThreadAllocatedBytes(id);
        boolean isGood = made - before < 60000 && after - made < 10000;
        System.out.println("bytes: " + (made - before) + " made with the object, " + (after - made) + " by its calls, "
            + sum + (isGood ? "" : ": too many"));
        if (!isGood) {
            System.exit(1);
        }
    }

    private static void run(SchoolLosing x, int[][] feeds) {
        for (int[] f : feeds) {
            sum += x.feed(f[0], f[1], f[2], f[3], f[4]);
        }
        sum += x.read();
        for (int i = 0; i < 10; i++) {
            sum += x.begin(6 + i % 5, i % 3, 1 + i % 2, i % 3, i % 2) ? 1 : 0;
            sum += x.steps(5);
            sum += x.learn(i % 4, i % 5);
            sum += x.order(i % 5 - 1) + x.courts(i % 4 - 1) + x.rests(i % 5 - 1) + x.reply(i % 3) + x.fine();
            sum += x.likely(i % 14, 0, 1, i % 3, 0, true) + x.most(i % 14, 0, 1, i % 3) + x.less(0, i % 3, true);
            sum += x.loses(i % 14, i % 2, 0, 1) + x.want(i % 14, 0, 1) + x.set() + x.tell(0, i, 0) + x.meant(0, i % 5, true);
            sum += x.hold(i % 3) ? 1 : 0;
            sum += x.undo() ? 1 : 0;
            sum += i % 4 == 0 && x.restore(0) ? 1 : 0;
            sum += x.cup(true) + x.count(i) + x.man(0, i) + x.game(i) + x.pays(i) + x.seen(i, 0, 0, 1, i);
        }
    }
}
