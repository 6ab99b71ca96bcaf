import com.sun.management.ThreadMXBean;
import java.lang.management.ManagementFactory;

/** All calls of a run live in one room: an object takes little of it, and its calls none. */
public final class RoomTest {
    private static final Due due = new Due("RoomTest");
    private static final ThreadMXBean room = (ThreadMXBean) ManagementFactory.getThreadMXBean();
    private static final int OBJECTS = 100;
    private static final int ROUNDS = 12;

    public static void main(String[] args) {
        // what the machine itself loads and measures at first is none of the calls'
        long sum = calls(new MeanTown(), 3);
        taken();
        long before = taken();
        MeanTown[] objects = made(OBJECTS);
        long each = (taken() - before) / OBJECTS;
        before = taken();
        for (MeanTown x : objects) {
            sum += calls(x, ROUNDS);
        }
        long byCalls = taken() - before;
        System.out.println(each + " bytes an object, " + byCalls + " by all calls");
        due.holds("an object takes less than 16000 bytes", each < 16000);
        due.holds("the calls take nothing, but for what measuring takes", byCalls < 1000);
        due.holds("the calls were made", sum != 0);
        due.end();
    }

    private static long taken() {
        return room.getThreadAllocatedBytes(Thread.currentThread().getId());
    }

    private static MeanTown[] made(int many) {
        MeanTown[] objects = new MeanTown[many];
        for (int k = 0; k < many; k++) {
            objects[k] = new MeanTown();
        }
        return objects;
    }

    /** Every call of the face, some 40 a round, on a town that is as dear as can be. */
    private static long calls(MeanTown x, int rounds) {
        long sum = 0;
        for (int r = 0; r < rounds; r++) {
            sum += x.type(0x6731302c67323020L, 8) + x.type(',', 1) + x.type(0x70302c7030202020L, 8);
            sum += x.town() + x.house(2, 9) + x.house(0, 9) + x.house(0, 9) + x.house(0, 9);
            sum += x.share(0, 2, 1) + x.share(1, 3, 2) + x.share(2, 3, 1) + x.share(3, 4, 2) + x.share(4, 5, 1);
            sum += x.share(5, 6, 1) + x.share(6, 7, 1) + x.ask(0, 9) + x.set(1, 0, 1) + x.purse(40);
            sum += x.told(7, 5) + x.count(2) + x.rent(7, 0) + x.moves(7, 0, 0) + x.walk(7, 0);
            sum += x.change(2, 3, 0, 5, 0) + x.pulled(2, 5, 0) + x.year() + x.near(0) + x.income(0, 0);
            sum += x.best(0) + x.rests(0, 1, 0) + x.bought(7, 0, 1) + x.image() + x.restore();
            sum += x.sheet(0, 2, 20) + x.sheet(1, 2, 20) + x.film(0, 2, 0) + x.film(0, 2, 8);
            sum += x.book(0, 2, 0) + x.item(0, 2, 0, 5) + x.copy(0, 0, 1, 0, 20) + x.drop(1);
        }
        return sum;
    }
}
