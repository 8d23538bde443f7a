import com.sun.management.ThreadMXBean;
import java.lang.management.ManagementFactory;

/** All calls of a run share one room: rows are made in the constructor, and calls make nothing anew. */
public final class RoomTest {
    private static final int MOST_CALLS = 512;
    private static final int MOST_BYTES_OF_A_TOWER = 4096;
    /** The virtual machine may take a little of its own while it measures. */
    private static final int SLACK = 512;

    private static final ThreadMXBean THREADS = (ThreadMXBean) ManagementFactory.getThreadMXBean();

    public static void main(String[] args) {
        // The first tower brings in the classes, which take room once.
        play(new ParkTower());
        long before = taken();
        ParkTower tower = new ParkTower();
        long made = taken();
        int cars = play(tower);
        long after = taken();
        Check.same("cars that came and were fetched", cars, 20);
        atMost("bytes of a new tower", made - before, MOST_BYTES_OF_A_TOWER);
        atMost("bytes of all its calls", after - made, SLACK);
        Check.end();
    }

    private static long taken() {
        return THREADS.getCurrentThreadAllocatedBytes();
    }

    private static void atMost(String what, long found, long most) {
        if (found > most) {
            Check.fail(what + ": " + found + ", at most " + most);
        }
    }

    /** As many calls as a tower is used for, of every kind that is not refused; the cars that drove off. */
    private static int play(ParkTower tower) {
        int gone = 0;
        int calls = 0;
        while (calls + 25 <= MOST_CALLS) {
            int ticket = tower.arrive(1, 400, 210, 3000);
            tower.shut(1);
            tower.jam(0, true);
            tower.tick(500);
            tower.jam(0, false);
            tower.person(1, true);
            tower.person(1, false);
            int moves = tower.plan(ticket, -1);
            int bay = tower.leave(ticket);
            tower.power(false);
            tower.tick(500);
            tower.power(true);
            tower.tick(500);
            for (int what = 0; what < 5; what++) {
                moves += tower.bay(bay, what);
            }
            for (int what = 0; what < 5; what++) {
                moves += tower.look(what);
            }
            moves += tower.cell(0);
            gone += tower.gone(bay) == ticket && moves != 0 ? 1 : 0;
            calls += 25;
        }
        return gone;
    }
}
