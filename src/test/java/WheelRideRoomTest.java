import com.sun.management.ThreadMXBean;
import java.lang.management.ManagementFactory;

/** All calls of a run live in one small room: a call makes no objects, and a new object makes few. */
public final class WheelRideRoomTest {
    private static final Check CHECK = new Check();
    private static final ThreadMXBean THREADS = (ThreadMXBean) ManagementFactory.getThreadMXBean();

    public static void main(String[] args) {
        WheelRide x = new WheelRide();
        everyCall(x);
        everyCall(x);
        long before = bytes();
        int rounds = 20;
        for (int i = 0; i < rounds; i++) {
            everyCall(x);
        }
        long made = (bytes() - before) / rounds;
        CHECK.holds("bytes made by one of each call: " + made, made < 2000);
        before = bytes();
        WheelRide[] many = new WheelRide[100];
        for (int i = 0; i < many.length; i++) {
            many[i] = new WheelRide();
        }
        made = (bytes() - before) / many.length;
        CHECK.holds("bytes made by a new object: " + made, made < 30000);
        CHECK.end();
    }

    private static long bytes() {
        return THREADS.getThreadAllocatedBytes(Thread.currentThread().getId());
    }

    private static final byte[] TEXT = "w12,20;f9,4;l8,3;g7,1;s6,2;c5,4;f4,1;".getBytes(java.nio.charset.StandardCharsets.US_ASCII);

    private static void everyCall(WheelRide x) {
        x.drop(0);
        x.row(0, 2, 12);
        x.set(0, 3, 7);
        x.copy(0, 0, 0, 1, 11);
        for (byte letter : TEXT) {
            x.feed(letter);
        }
        x.wheel();
        x.fault();
        for (int n = 1; n <= 4; n++) {
            x.order(37 + n - 1, 0);
        }
        x.load(40, 0);
        x.bear(40);
        x.byTurns(4, 20);
        x.away(40, 5, 0);
        x.drawn(60, 77, 0);
        x.who(0, 3, 0, 0, 12);
        x.steps(24);
        x.turnTo(5);
        x.turnTo(6);
        x.ballast(3, 4);
        x.limit(30);
        x.again(4);
        x.undo();
        for (int what = 0; what < 9; what++) {
            x.party(1, what);
            x.gondola(2, what);
            x.stand(what);
            x.count(what);
            x.ahead(3, 60, what);
            x.sets(20, what);
            x.first(what);
            x.when(2, what);
        }
        x.leans(60);
        x.share(2, 100);
        x.image(0);
        x.restore(0);
        x.kind(0);
        x.as(1, 1);
        x.ask(1, 0);
        x.trace(0);
        x.status();
    }
}
