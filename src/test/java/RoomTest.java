import com.sun.management.ThreadMXBean;
import java.lang.management.ManagementFactory;

/** What an object takes when it is made, that no call takes more, and that the dearest calls end soon. */
public final class RoomTest {
    private static final String FIVE = "p999 0 0 0;l9 0;l8 1;l7 2;l6 3;l5 4;s9 0 0;s8 1 1;s7 2 2;s6 3 3;s5 4 4;";
    private static final long MOST_BYTES_MADE = 40000;
    private static final long MOST_BYTES_CALLED = 2000;
    private static final long MOST_MILLIS = 20000;
    private static final Check CHECK = new Check("RoomTest");

    private static long sum;

    private RoomTest() {
    }

    private static long bytes() {
        return ((ThreadMXBean) ManagementFactory.getThreadMXBean()).getCurrentThreadAllocatedBytes();
    }

    public static void main(String[] args) {
        callAll(Check.made(FIVE));
        long ahead = bytes();
        ParrotTontine x = new ParrotTontine();
        long made = bytes() - ahead;
        CHECK.due("a new object takes " + made + " bytes", made <= MOST_BYTES_MADE ? 1 : 0, 1);
        Check.feedAll(x, FIVE);
        ahead = bytes();
        long began = System.nanoTime();
        x.tontine();
        for (int i = 0; i < 30; i++) {
            callAll(x);
        }
        long called = bytes() - ahead;
        long millis = (System.nanoTime() - began) / 1000000;
        CHECK.due("the calls take " + called + " bytes", called <= MOST_BYTES_CALLED ? 1 : 0, 1);
        CHECK.due("the calls take " + millis + " ms", millis <= MOST_MILLIS ? 1 : 0, 1);
        CHECK.due("they were not refused", sum > -1000000000L ? 1 : 0, 1);
        CHECK.close();
    }

    private static void callAll(ParrotTontine x) {
        sum += x.year(30) + x.guard(0, 1) + x.harm(1, 0) + x.drift(1) + x.undo() + x.sell(0, 1, 1) + x.undo();
        sum += x.worth(0, 20) + x.gain(0, 1, 20) + x.gainers(20) + x.terms(20) + x.who(0, 50) + x.nurse(4, 20);
        sum += x.game(0, 1, 20, 0) + x.game(4, 3, 20, -1) + x.fair(0, 20) + x.outlives(0, 1, 20);
        sum += x.write(0, 0) + x.judge() + x.tear() + x.seed(0) + x.keep(0) + x.goBack(0);
    }
}
