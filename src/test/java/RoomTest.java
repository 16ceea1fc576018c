import com.sun.management.ThreadMXBean;
import java.lang.management.ManagementFactory;

/** A run's calls live in one room: the dearest calls make next to nothing anew, and they end soon. */
public final class RoomTest {
    private static final ThreadMXBean THREADS = (ThreadMXBean) ManagementFactory.getThreadMXBean();

    public static void main(String[] args) {
        dearCalls(wide());
        long before = made();
        SealedBonds x = wide();
        long object = made() - before;
        Check.holds("an object takes " + object + " bytes", object < 100000);
        before = made();
        int answers = dearCalls(x);
        long calls = made() - before;
        Check.holds("the calls take " + calls + " bytes", calls < 400000);
        Check.holds("they answer", answers != 0);
        Check.due("all", wide().all(), 1458);
        Check.close("RoomTest");
    }

    private static long made() {
        return THREADS.getThreadAllocatedBytes(Thread.currentThread().getId());
    }

    /** As many MATCHINGS that STAND as there can be in a market of single PEOPLE who want pay, and OFFICES that don't. */
    private static SealedBonds wide() {
        SealedBonds x = Check.market(7, 4);
        for (int b = 0; b < 20; b++) {
            x.bond(b % 7, b % 7 % 3, 10 * (b / 7), 0, 0);
        }
        for (int b = 19; b >= 0; b--) {
            x.list(b);
        }
        for (int o = 0; o < 4; o++) {
            tell(x, o);
        }
        return x;
    }

    /** q8;r-p, by numbers: the test's own texts would count. */
    private static void tell(SealedBonds x, int office) {
        x.sign(0x71383b72);
        x.sign(0x2d700000);
        x.end(6);
        x.choice(office);
    }

    private static int dearCalls(SealedBonds x) {
        int sum = 0;
        for (int i = 0; i < 20; i++) {
            x.clear(0);
            for (int b = 14; b >= 0; b -= 7) {
                x.list(b);
            }
            tell(x, i % 4);
            sum += x.all() + x.best(0) + x.best(1) + x.near() + x.places() + x.gain(i % 7) + x.left() + x.same();
            sum += x.lot(i) + x.mean() + x.gone(0, i % 7) + x.law(i % 4, 0) + x.law(i % 4, 1) + x.offer();
            sum += x.steps(x.best(0), x.best(1)) + x.judge(i) + x.take(0, i) + x.why(0, 1, 0) + x.order(i);
        }
        return sum;
    }
}
