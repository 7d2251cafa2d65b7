import com.sun.management.ThreadMXBean;
import java.lang.management.ManagementFactory;
import java.util.function.Consumer;

/** The room that a house and its dearest calls take; all calls of one run live in one room. */
public final class RoomTest {
    private static final int CALLS = 460;
    private static final long MOST_BYTES = 40_000;

    private static final Check check = new Check("RoomTest");
    private static final ThreadMXBean threads = (ThreadMXBean) ManagementFactory.getThreadMXBean();

    public static void main(String[] args) {
        Consumer<Placecard> calls = RoomTest::askAll;
        bytesOf(() -> calls.accept(crowded()));
        long made = bytesOf(RoomTest::crowded);
        check.due("a house of " + made + " bytes takes little room", made < MOST_BYTES, true);
        Placecard house = crowded();
        long asked = bytesOf(() -> {
            for (int i = 0; i < CALLS / 12; i++) {
                calls.accept(house);
            }
        });
        check.due(CALLS + " calls, " + asked + " bytes, take little room", asked < MOST_BYTES, true);
        check.end();
    }

    private static long bytesOf(Runnable run) {
        long before = threads.getThreadAllocatedBytes(Thread.currentThread().getId());
        run.run();
        return threads.getThreadAllocatedBytes(Thread.currentThread().getId()) - before;
    }

    private static Placecard crowded() {
        Placecard house = House.withTables("r7 l6");
        House.invite(house, 13);
        for (int i = 0; i < 13; i++) {
            house.sit(i, i / 7, i % 7);
        }
        for (int i = 0; i < 16; i++) {
            int guest = i % 2 == 0 ? i / 2 % 7 : 7 + i / 2 % 6;
            int other = i % 2 == 0 ? (i / 2 + 3) % 7 : 7 + (i / 2 + 2) % 6;
            house.addCondition("bnatose".charAt(i % 7), guest, other, i % 3);
        }
        return house;
    }

    /** Twelve calls. */
    private static void askAll(Placecard house) {
        house.bestBroken(0);
        house.bestLoss(0);
        house.bestAt(0, 3);
        house.arrange(0);
        house.answers(0);
        house.isNeeded(0, 2);
        house.quarrel(1);
        house.quarrel(1);
        house.isSound();
        house.checksum();
        house.swap(0, 8);
        house.swap(8, 0);
    }
}
