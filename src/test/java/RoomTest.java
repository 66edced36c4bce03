import com.sun.management.ThreadMXBean;
import java.lang.management.ManagementFactory;

/** All calls of one run live in one room: what an object makes is counted in bytes. */
public final class RoomTest {
    private static final long MADE_BY_CONSTRUCTOR = 600_000L;
    private static final long MADE_BY_INTERPRETER = 1_400_000L;
    private static final long MADE_BY_CALLS = 100_000L;

    public static void main(String[] args) {
        ThreadMXBean bean = (ThreadMXBean) ManagementFactory.getThreadMXBean();
        useAll(new Selfkindle());
        long start = bean.getCurrentThreadAllocatedBytes();
        Selfkindle s = new Selfkindle();
        long made = bean.getCurrentThreadAllocatedBytes();
        tell(s);
        s.program();
        s.stateAnew();
        long interpreted = bean.getCurrentThreadAllocatedBytes();
        long most = 0;
        for (int i = 0; i < 20; i++) {
            long before = bean.getCurrentThreadAllocatedBytes();
            useAll(s);
            most = Math.max(most, bean.getCurrentThreadAllocatedBytes() - before);
        }
        boolean isSmall = made - start < MADE_BY_CONSTRUCTOR && interpreted - made < MADE_BY_INTERPRETER && most < MADE_BY_CALLS;
        System.out.println("constructor " + (made - start) + ", interpreter " + (interpreted - made) + ", calls " + most);
        System.out.println(isSmall ? "1 passed, 0 failed" : "0 passed, 1 failed");
        if (!isSmall) {
            System.exit(1);
        }
    }

    /** Recursion with pairs, functions and handlers: every order makes something. */
    private static void tell(Selfkindle s) {
        s.name(1);
        s.name(0);
        s.name(1);
        s.number(1L);
        s.two(1);
        s.call();
        s.name(1);
        s.raise();
        s.name(2);
        s.handle(2);
        s.pair();
        s.half(false);
        s.number(0L);
        s.choose();
        s.name(0);
        s.number(20L);
        s.call();
        s.rec(0, 1);
    }

    private static void useAll(Selfkindle s) {
        for (int i = 0; i < 20; i++) {
            tell(s);
            s.program();
            s.go(2000);
            s.optimise(15);
            s.go(2000);
            s.again();
            s.go(2000);
            s.stateAnew();
            s.valueAnew();
        }
    }
}
