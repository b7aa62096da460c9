import com.sun.management.ThreadMXBean;
import java.lang.management.ManagementFactory;

/** All calls live in one room: the rows are made with the object, and a text that is read makes next to nothing. */
public final class RoomTest {
    private static final int MOST_BYTES_OF_OBJECT = 200_000, MOST_BYTES_OF_CALLS = 20_000;

    public static void main(String[] args) {
        ThreadMXBean bean = (ThreadMXBean) ManagementFactory.getThreadMXBean();
        // The first rounds load classes, which takes room that is not the program's.
        for (int i = 0; i < 3; i++) {
            use(new TrajectoryCheck());
        }
        long start = bean.getCurrentThreadAllocatedBytes();
        TrajectoryCheck x = new TrajectoryCheck();
        long made = bean.getCurrentThreadAllocatedBytes();
        use(x);
        long used = bean.getCurrentThreadAllocatedBytes();
        Drive.due("an object is small: " + (made - start), made - start < MOST_BYTES_OF_OBJECT ? 1 : 0, 1);
        Drive.due("its calls make little: " + (used - made), used - made < MOST_BYTES_OF_CALLS ? 1 : 0, 1);
        Drive.finish("RoomTest");
    }

    /** "input a;wire b=!a;  " and "given a is A if B then b is !A if C. ", the latter often. */
    private static void use(TrajectoryCheck x) {
        x.feed(0x696e7075, 0x7420613b, 0x77697265, 0x20623d21, 0x613b2020);
        Drive.due("circuit", x.circuit(), TrajectoryCheck.NONE);
        for (int i = 0; i < 36; i++) {
            x.feed(0x67697665, 0x6e206120, 0x69732041, 0x20696620, 0x42207468);
            x.feed(0x656e2062, 0x20697320, 0x21412069, 0x6620432e, 0x20202020);
            Drive.due("assertion", x.assertion(), TrajectoryCheck.NONE);
            Drive.due("fails", x.fails(), 2);
            Drive.due("excluded", x.excluded(), 0);
            Drive.due("failing", x.failing(1), 5);
            Drive.due("shortfall", x.shortfall(1, 0), 0);
            Drive.due("value", x.value(1, 0, 7), 0);
            Drive.due("matters", x.matters(1, 0, 2), 0);
            Drive.due("cone", x.cone(1), 1);
            Drive.due("count", x.count(4), 3);
            x.feed(0, 0, 0, 0, 0);
            Drive.due("a fault", x.circuit(), 0);
        }
    }
}
