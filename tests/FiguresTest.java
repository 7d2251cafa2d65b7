/** Promises 38 to 41: the checksum, shares and means, and soundness. */
public final class FiguresTest {
    private static final Check check = new Check("FiguresTest");

    public static void main(String[] args) {
        checksum();
        seatedShare();
        meanRank();
        isSound();
        check.end();
    }

    private static long sumOf(long... numbers) {
        long sum = 7;
        for (long number : numbers) {
            sum = 31 * sum + number;
        }
        return sum;
    }

    private static void checksum() {
        Placecard house = House.withTables("r2 h3");
        check.due("checksum() without guests", house.checksum(), sumOf(0, 0));
        for (int i = 0; i < 7; i++) {
            house.addGuest(1, 1, 0, 1 << i % 2, 'b');
            if (i < 6) {
                house.reply(i, i != 4);
            }
        }
        house.sit(0, 1, 0);
        house.sit(1, 1, 1);
        house.sit(2, 0, 1);
        house.addCondition('s', 0, 1, 4);
        house.addCondition('t', 0, 2, 9);
        house.addCondition('t', 0, 2, 0);
        house.keepEvening();
        house.keepEvening();
        check.due("checksum()", house.checksum(),
                sumOf(100, 'c', 101, 'c', 1, 'c', -1, 'c', -1, 'n', -1, 'c', -1, 'i', 13, 2));
        house.drop(1, true);
        house.reply(6, true);
        check.due("checksum() then", house.checksum(),
                sumOf(100, 'c', 101, 'c', 1, 'c', -1, 'c', -1, 'n', -1, 'c', -1, 'w', 4, 2));
        Placecard many = new Placecard();
        House.invite(many, 16);
        long[] row = new long[34];
        for (int i = 0; i < 32; i++) {
            row[i] = i % 2 == 0 ? -1 : 'w';
        }
        check.due("checksum() of sixteen, beyond a long", many.checksum(), sumOf(row));
    }

    private static void seatedShare() {
        Placecard house = House.withTables("r2 h5");
        House.invite(house, 6);
        check.due("seatedShare(), none sits", house.seatedShare(), 0f);
        house.sit(4, 0, 0);
        check.due("seatedShare(), one of six", house.seatedShare(), 1f / 6f);
        house.sit(1, 1, 0);
        house.sit(2, 1, 4);
        house.sit(3, 1, 1);
        house.reply(5, false);
        check.due("seatedShare(), four of five", house.seatedShare(), 4f / 5f);
        house.reply(0, false);
        check.due("seatedShare(), all", house.seatedShare(), 1f);
        check.refused("seatedShare() of a new house", Check.ARITHMETIC, Placecard::new, Placecard::seatedShare);
        Placecard waiting = new Placecard();
        House.invite(waiting, 2);
        check.refused("seatedShare(), two wait", Check.ARITHMETIC, waiting::seatedShare);
    }

    private static void meanRank() {
        Placecard house = House.withTables("r4 h2");
        int[] ranks = {99, 0, 50, 1};
        for (int i = 0; i < 4; i++) {
            house.addGuest(ranks[i], 1, 0, 1, 'b');
            house.reply(i, true);
        }
        house.sit(0, 0, 3);
        check.due("meanRank(0) of one", house.meanRank(0), 99.0);
        house.sit(1, 0, 0);
        check.due("meanRank(0) of two", house.meanRank(0), 49.5);
        house.sit(3, 0, 1);
        check.due("meanRank(0) of three", house.meanRank(0), 100.0 / 3.0);
        house.swap(0, 1);
        check.due("meanRank(0), the greatest on the seat 0", house.meanRank(0), 100.0 / 3.0);
        house.sit(2, 1, 1);
        check.due("meanRank(1)", house.meanRank(1), 50.0);
        house.rise(2);
        check.refused("meanRank(1) of nobody", Check.ARITHMETIC, () -> house.meanRank(1));
        check.refused("meanRank(-1)", Check.BOUNDS, House::full, x -> x.meanRank(-1));
        check.refused("meanRank(3)", Check.BOUNDS, House::full, x -> x.meanRank(3));
    }

    private static void isSound() {
        check.due("isSound() of a new house", new Placecard().isSound(), true);
        Placecard house = House.full();
        check.due("isSound() of a full house", house.isSound(), true);
        house.reply(2, false);
        check.due("isSound() after a no", house.isSound(), true);
        house.swap(5, 7);
        house.arrange(0);
        house.addTable('r', 9);
        check.due("isSound() after more", house.isSound(), true);
    }
}
