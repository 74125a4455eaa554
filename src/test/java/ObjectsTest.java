import java.lang.management.ManagementFactory;

/** A run lives in one room: an object is small, and its calls make none. */
public final class ObjectsTest {
    private static final int OBJECTS = 100;
    // One step in sixteen makes three calls: 504 in all, within the 512 that an object is used for.
    private static final int STEPS = 448;
    private static final com.sun.management.ThreadMXBean THREADS =
            (com.sun.management.ThreadMXBean) ManagementFactory.getThreadMXBean();

    public static void main(String[] args) {
        UnitLog[] logs = new UnitLog[OBJECTS];
        use(new UnitLog(8));
        long begin = allocated();
        for (int i = 0; i < OBJECTS; i++) {
            logs[i] = new UnitLog(8);
        }
        long made = allocated() - begin;
        begin = allocated();
        long sum = 0;
        for (UnitLog log : logs) {
            sum += use(log);
        }
        long used = allocated() - begin;
        System.out.println(made / OBJECTS + " bytes an object, " + used + " bytes by "
                + OBJECTS * STEPS + " steps (sum " + sum + ")");
        // A byte for each step would be an object in some of them; what the JVM makes of its own stays far below.
        if (made / OBJECTS > 8000 || used >= OBJECTS * STEPS) {
            System.exit(1);
        }
    }

    private static long allocated() {
        return THREADS.getThreadAllocatedBytes(Thread.currentThread().getId());
    }

    private static long use(UnitLog log) {
        long sum = 0;
        for (int n = 0; n < STEPS; n++) {
            sum += call(log, n);
        }
        return sum;
    }

    private static long call(UnitLog log, int n) {
        switch (n % 16) {
            case 0: case 1: case 2: case 3:
                return log.write(n * 7 % 16, n * 0x0102030405060708L, n);
            case 4:
                return log.trim(n / 16 % 16);
            case 5:
                return log.read(n / 16 % 16, n / 2 % 2);
            case 6:
                return log.packed(n / 16 % 16, n / 16 % 18 - 1);
            case 7:
                return log.place(n / 16 % 16);
            case 8:
                return log.flush();
            case 9:
                return log.checkpoint();
            case 10: case 11:
                return log.clean();
            case 12:
                return log.arm(n) ? 1 : 0;
            case 13:
                return n % 3 == 0 && log.crash() ? 1 : 0;
            case 14:
                return log.recover();
            default:
                return log.live(n / 16 % 8) + log.segment(n / 16 % 8) + log.look(n / 16 % 7);
        }
    }
}
