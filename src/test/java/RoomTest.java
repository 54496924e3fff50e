import com.sun.management.ThreadMXBean;
import java.lang.management.ManagementFactory;

/** LANGUAGE.md, rule 12: what a run makes is little, since the rows are made with the object and used again. */
public final class RoomTest {

    // Far above what the machine itself may take beside, far below one more state a call (some 1,700 bytes).
    private static final long MOST_BYTES_A_CALL = 200;
    private static final long MOST_BYTES_AN_OBJECT = 30000;
    private static final int CALLS = 500;

    private static final ThreadMXBean THREADS = (ThreadMXBean) ManagementFactory.getThreadMXBean();

    public static void main(String[] args) {
        Check c = new Check("RoomTest");
        calls();
        long before = bytes();
        int made = calls();
        long each = (bytes() - before - MOST_BYTES_AN_OBJECT) / made;
        c.yes("a call takes little room: " + each + " bytes", each <= MOST_BYTES_A_CALL);
        before = bytes();
        SpeedTurns x = new SpeedTurns();
        long object = bytes() - before;
        c.yes("an object takes little room: " + object + " bytes", object <= MOST_BYTES_AN_OBJECT);
        c.same("the object", 0, x.value(0));
        c.finish();
    }

    private static long bytes() {
        return THREADS.getThreadAllocatedBytes(Thread.currentThread().getId());
    }

    private static int calls() {
        SpeedTurns x = new SpeedTurns();
        x.add(9, 100);
        x.add(8, 100);
        x.append('h');
        x.append('1');
        x.append(',');
        x.append('9');
        x.append(';');
        int made = 0;
        while (made < CALLS) {
            x.next();
            x.cast(x.value(4), 1, 3, 5, 9, 2);
            x.act(1 - x.value(4), 3, 0, 1);
            x.lifeSettled();
            x.settle();
            x.upcoming(40);
            x.carryOut();
            x.settle();
            x.digest();
            x.end();
            made += 10;
        }
        return made;
    }
}
