import com.sun.management.ThreadMXBean;
import java.lang.management.ManagementFactory;

/** The room that the fullest house and all its calls take; all calls of one run live in one room. */
public final class RoomTest {
    private static final int MEASURES = 5;
    private static final int ROUNDS = 20;
    private static final long MOST_BYTES = 40_000;

    private static final Check check = new Check("RoomTest");
    private static final ThreadMXBean threads = (ThreadMXBean) ManagementFactory.getThreadMXBean();

    public static void main(String[] args) {
        long made = least(RoomTest::fullest);
        check.due("a house of " + made + " bytes takes little room", made < MOST_BYTES, true);
        Placecard house = fullest();
        long asked = least(() -> {
            for (int i = 0; i < ROUNDS; i++) {
                askAll(house);
            }
        });
        check.due("bytes that the calls of a house make", asked, 0L);
        check.end();
    }

    /** The least of some measures, since the machine now and then takes room of its own. */
    private static long least(Runnable run) {
        long least = Long.MAX_VALUE;
        for (int i = 0; i < MEASURES; i++) {
            least = Math.min(least, bytesOf(run));
        }
        return least;
    }

    private static long bytesOf(Runnable run) {
        long before = threads.getThreadAllocatedBytes(Thread.currentThread().getId());
        run.run();
        return threads.getThreadAllocatedBytes(Thread.currentThread().getId()) - before;
    }

    /** Six tables of ten seats, sixteen guests who sit, sixteen conditions and twenty evenings. */
    private static Placecard fullest() {
        Placecard house = House.withTables("r10 l10 h10 r10 l10 h10");
        House.invite(house, 16);
        for (int i = 0; i < 16; i++) {
            house.sit(i, i < 7 ? 0 : i < 13 ? 1 : i - 11, i < 13 ? i % 7 : 9);
        }
        for (int i = 0; i < 15; i++) {
            int guest = i % 2 == 0 ? i / 2 % 7 : 7 + i / 2 % 6;
            int other = i % 2 == 0 ? (i / 2 + 3) % 7 : 7 + (i / 2 + 2) % 6;
            house.addCondition("bnatose".charAt(i % 7), guest, other, i % 3);
        }
        house.drop(house.addCondition('d', 7, 8, 0), true);
        for (int i = 0; i < 20; i++) {
            house.keepEvening();
        }
        return house;
    }

    /** Calls that are answered, since an exception takes room of the machine's own. */
    private static void askAll(Placecard house) {
        house.bestBroken(0);
        house.bestLoss(0);
        house.bestAt(0, 3);
        house.arrange(0);
        house.answers(0);
        house.isNeeded(0, 2);
        house.moves(2);
        house.drop(15, false);
        house.quarrel(1);
        house.quarrelAt(1, 0);
        house.drop(15, true);
        house.isSound();
        house.checksum();
        house.swap(0, 8);
        house.swap(8, 0);
        house.reply(15, false);
        house.reply(15, true);
        house.sit(15, 5, 9);
        house.lock();
        house.without();
        house.first(1, 15);
        house.faults(0, 1);
        house.unmet();
        house.seatedShare();
        house.meanRank(0);
    }
}
