import com.sun.management.ThreadMXBean;
import java.lang.management.ManagementFactory;

/** The dearest calls make no objects: all calls of a run live in one room. */
public final class RoomTest {
    private static final int OBJECTS = 50;
    private static final long MOST_BYTES_AN_OBJECT = 16_000;
    private static final long MOST_BYTES_OF_CALLS = 100_000;

    public static void main(String[] args) {
        ThreadMXBean bean = (ThreadMXBean) ManagementFactory.getThreadMXBean();
        CrashVault[] vaults = new CrashVault[OBJECTS];
        run(new CrashVault());
        long before = bean.getCurrentThreadAllocatedBytes();
        for (int i = 0; i < OBJECTS; i++) {
            vaults[i] = new CrashVault();
        }
        long made = bean.getCurrentThreadAllocatedBytes();
        for (CrashVault vault : vaults) {
            run(vault);
        }
        long called = bean.getCurrentThreadAllocatedBytes();
        Check.due("a new object is small", (made - before) / OBJECTS <= MOST_BYTES_AN_OBJECT, true);
        Check.due("the calls make next to nothing", called - made <= MOST_BYTES_OF_CALLS, true);
        Check.end();
    }

    private static void run(CrashVault vault) {
        vault.make(5, 9, 40, 1000);
        for (int call = 1; call < 480; call++) {
            int kind = call % 4;
            if (kind == 0) {
                vault.put(1 + call % 8, call);
            } else if (kind == 1) {
                vault.save(1000);
            } else if (kind == 2) {
                vault.open(5);
            } else {
                vault.isGood(1, 5);
            }
        }
    }
}
