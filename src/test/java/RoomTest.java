import com.sun.management.ThreadMXBean;
import java.lang.management.ManagementFactory;

/** What the dearest runs of 512 calls make: a small part of the room that all calls of a run share. */
public final class RoomTest {
    // The room's 7.3 million elements of four bytes are 29 million bytes: a hundred such runs find room in it.
    private static final long MOST_OF_A_RUN = 290000;
    private static final long MOST_OF_QUESTIONS = 1000;
    private static final ThreadMXBean BEAN = (ThreadMXBean) ManagementFactory.getThreadMXBean();
    private static int wrong = 0;

    private static long made() {
        return BEAN.getThreadAllocatedBytes(Thread.currentThread().getId());
    }

    private static void look(String run, long before, long most) {
        long bytes = made() - before;
        if (bytes > most) {
            wrong++;
            System.out.println(run + " makes " + bytes + " bytes");
        }
    }

    /** All towns, roads and crowds: eight crowds mix car by car before a road that is shut. */
    private static ShadowRoads full(int cars) {
        ShadowRoads x = new ShadowRoads();
        for (int t = 0; t < 10; t++) {
            x.town(10 * t, 1000000);
        }
        x.road(8, 9, 5000, 1);
        for (int t = 0; t < 8; t++) {
            x.road(t, 8, 1, 1);
            x.crowd(t, cars, 9);
        }
        for (int r = 9; r < 16; r++) {
            x.road(9, r - 9, 1, 9);
        }
        x.shut(0, 0, 198);
        return x;
    }

    private static void newObject() {
        long before = made();
        full(1);
        look("a full object", before, MOST_OF_A_RUN);
    }

    private static void plans() {
        long before = made();
        ShadowRoads x = full(200);
        for (int c = 0; c < 4; c++) {
            x.hold(c, 60);
        }
        x.go(50);
        for (int i = 0; i < 224; i++) {
            x.hold(0, 60 + i % 9);
            x.plan(0);
        }
        look("a run of plans", before, MOST_OF_A_RUN);
    }

    private static void forecasts() {
        long before = made();
        ShadowRoads x = full(20000);
        for (int i = 0; i < 196; i++) {
            x.go(1);
            x.foretold(0);
        }
        look("a run of forecasts", before, MOST_OF_A_RUN);
    }

    private static void questions() {
        ShadowRoads x = full(200);
        x.go(50);
        x.foretold(0);
        x.plan(0);
        long before = made();
        for (int i = 0; i < 20; i++) {
            x.seconds(i % 10);
            x.least(i % 10, 9);
            x.queue(i % 16);
            x.on(i % 16);
            x.lacks(i % 10);
            x.planned(0);
            x.counted(i % 16, i, i);
            x.came(i % 16, 0, 49, 1);
            x.out(i % 16, i);
            x.told(i % 8, i % 6);
            x.at(i % 10, i % 3);
            x.count(i % 7);
        }
        look("a run of questions", before, MOST_OF_QUESTIONS);
    }

    public static void main(String[] args) {
        made();
        newObject();
        plans();
        forecasts();
        questions();
        System.out.println(wrong == 0 ? "the room is large enough" : wrong + " runs make too much");
        if (wrong != 0) {
            System.exit(1);
        }
    }
}
