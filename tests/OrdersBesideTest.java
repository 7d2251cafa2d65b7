import java.util.ArrayList;
import java.util.List;
import java.util.TreeSet;

/**
 * "An order of a table gives its guests its seats that they have now, each one; all else stays": each order is set by
 * sit() in a house of its own, and asked what it breaks; what the nine calls on orders answer must follow from that.
 */
public final class OrdersBesideTest {
    private static final int TABLE = 1;
    private static final int WORLDS = 400;

    private static final Check check = new Check("OrdersBesideTest");

    /** What one order breaks, as the house says that is set so. */
    private static final class Order {
        final int[] row;
        final TreeSet<Integer> broken = new TreeSet<>();
        int hard;
        int loss;

        Order(int[] row) {
            this.row = row;
        }
    }

    private final int world;
    private final List<Integer> seats = new ArrayList<>();
    private final List<Integer> weights = new ArrayList<>();
    private final List<int[]> conditions = new ArrayList<>();
    private final TreeSet<Integer> dropped = new TreeSet<>();
    private final List<Order> orders = new ArrayList<>();
    private long seed;
    private char kind;
    private int size;
    private int sitters;
    private int others;
    private int inked;

    private OrdersBesideTest(int world) {
        this.world = world;
        seed = world * 104729L + 17;
    }

    public static void main(String[] args) {
        for (int world = 0; world < WORLDS; world++) {
            new OrdersBesideTest(world).go();
        }
        check.end();
    }

    /** A number from low to high, the same ones in each run of the test. */
    private int pick(int low, int high) {
        seed = seed * 6364136223846793005L + 1442695040888963407L;
        return low + (int) ((seed >>> 33) % (high - low + 1));
    }

    private void due(String call, Object got, Object want) {
        check.due("world " + world + ": " + call, got, want);
    }

    private void go() {
        makeUp();
        setAllOrders(new int[sitters], 0, 0);
        Placecard house = house(null);
        dueBest(house);
        dueRiddle(house);
        dueQuarrel(house);
        dueMoves(house);
        dueNothingChanged();
        dueArranged();
    }

    private void makeUp() {
        // Few worlds have seven or six at the table, since each order is a house of its own.
        sitters = world % 40 == 0 ? 7 : world % 20 == 0 ? 6 : pick(0, 5);
        kind = "rhl".charAt(pick(0, 2));
        size = Math.min(10, Math.max(2, sitters + pick(0, 3)));
        size += kind == 'l' ? size % 2 : 0;
        others = pick(0, 4);
        for (int i = 0; i < sitters; i++) {
            int seat = pick(0, size - 1);
            while (seats.contains(seat)) {
                seat = (seat + 1) % size;
            }
            seats.add(seat);
        }
        inked = pick(0, 2) == 0 ? pick(0, (1 << sitters) - 1) : 0;
        makeUpConditions();
    }

    private void makeUpConditions() {
        int guests = sitters + others;
        int count = guests < 2 ? 0 : pick(0, 16);
        for (int i = 0; i < count; i++) {
            // Most conditions are of the table's own guests, so that its orders differ.
            int among = sitters >= 2 && pick(0, 5) != 0 ? sitters : guests;
            int guest = pick(0, among - 1);
            int other = (guest + pick(1, among - 1)) % among;
            conditions.add(new int[] {"bnnaosse".charAt(pick(0, 7)), guest, other});
            if (pick(0, 9) == 0) {
                conditions.get(i)[0] = "td".charAt(pick(0, 1));
            }
            weights.add(pick(0, 2) == 0 ? pick(1, 9) : 0);
            if (pick(0, 6) == 0) {
                dropped.add(i);
            }
        }
    }

    /** The house; the guests of the table on their seats by an order, or as they sit now if none is told. */
    private Placecard house(int[] row) {
        Placecard house = House.withTables("r3 " + kind + size + " h2");
        for (int guest = 0; guest < sitters + others; guest++) {
            house.addGuest(10 * guest % 7, 20, guest % 5, 1 << guest % 3, "blr".charAt(guest % 3));
            house.reply(guest, true);
        }
        for (int i = 0; i < sitters; i++) {
            house.sit(row == null ? i : row[i], TABLE, seats.get(i));
        }
        for (int i = 0; i < Math.min(3, others); i++) {
            house.sit(sitters + i, 0, i);
        }
        for (int i = 0; i < sitters; i++) {
            if ((inked >> i & 1) != 0) {
                house.ink(i);
            }
        }
        for (int i = 0; i < conditions.size(); i++) {
            int[] condition = conditions.get(i);
            house.addCondition((char) condition[0], condition[1], condition[2], weights.get(i));
            house.drop(i, dropped.contains(i));
        }
        house.keepEvening();
        return house;
    }

    private void setAllOrders(int[] row, int count, int used) {
        if (count == sitters) {
            orders.add(asSet(row.clone()));
        }
        for (int guest = 0; guest < sitters; guest++) {
            if ((used >> guest & 1) == 0) {
                row[count] = guest;
                setAllOrders(row, count + 1, used | 1 << guest);
            }
        }
    }

    private Order asSet(int[] row) {
        Order order = new Order(row);
        Placecard house = house(row);
        for (int i = 0; i < conditions.size(); i++) {
            if (house.isBroken(i)) {
                order.broken.add(i);
            }
        }
        order.hard = house.broken();
        order.loss = house.loss();
        return order;
    }

    // ---- the best order

    private boolean holdsCards(Order order) {
        for (int i = 0; i < sitters; i++) {
            if ((inked >> i & 1) != 0 && order.row[i] != i) {
                return false;
            }
        }
        return true;
    }

    /** The guest on a seat of the table by an order, -1 for none. */
    private int guestOn(Order order, int seat) {
        int place = seats.indexOf(seat);
        return place < 0 ? -1 : order.row[place];
    }

    private boolean isBetter(Order order, Order than) {
        if (order.hard != than.hard) {
            return order.hard < than.hard;
        }
        if (order.loss != than.loss) {
            return order.loss < than.loss;
        }
        for (int seat = 0; seat < size; seat++) {
            if (guestOn(order, seat) != guestOn(than, seat)) {
                return guestOn(order, seat) < guestOn(than, seat);
            }
        }
        return false;
    }

    private Order best() {
        Order best = null;
        for (Order order : orders) {
            if (holdsCards(order) && (best == null || isBetter(order, best))) {
                best = order;
            }
        }
        return best;
    }

    private int moved(Order order) {
        int count = 0;
        for (int i = 0; i < sitters; i++) {
            count += order.row[i] == i ? 0 : 1;
        }
        return count;
    }

    private void dueBest(Placecard house) {
        Order best = best();
        due("bestBroken", house.bestBroken(TABLE), best.hard);
        due("bestLoss", house.bestLoss(TABLE), best.loss);
        for (int i = 0; i < size; i++) {
            int seat = i;
            int guest = guestOn(best, seat);
            if (guest < 0) {
                check.refused("world " + world + ": bestAt " + seat, Check.ELEMENT, () -> house.bestAt(TABLE, seat));
            } else {
                due("bestAt " + seat, house.bestAt(TABLE, seat), guest);
            }
        }
    }

    // ---- riddles and quarrels, cards aside

    private boolean isClue(int condition) {
        int[] told = conditions.get(condition);
        boolean areBothThere = told[1] < sitters && told[2] < sitters;
        return weights.get(condition) == 0 && areBothThere && !dropped.contains(condition);
    }

    /** The orders that keep all of these. */
    private int keeping(List<Integer> kept) {
        int count = 0;
        for (Order order : orders) {
            boolean isKept = true;
            for (int condition : kept) {
                isKept &= !order.broken.contains(condition);
            }
            count += isKept ? 1 : 0;
        }
        return count;
    }

    private List<Integer> clues() {
        List<Integer> found = new ArrayList<>();
        for (int i = 0; i < conditions.size(); i++) {
            if (isClue(i)) {
                found.add(i);
            }
        }
        return found;
    }

    private void dueRiddle(Placecard house) {
        int answers = keeping(clues());
        due("answers", house.answers(TABLE), answers);
        for (int i = 0; i < conditions.size(); i++) {
            List<Integer> fewer = clues();
            fewer.remove((Integer) i);
            boolean isNeeded = keeping(fewer) > answers;
            due("isNeeded " + i, house.isNeeded(TABLE, i), isNeeded);
            house.drop(i, true);
            due("answers without " + i, house.answers(TABLE) > answers, isNeeded);
            house.drop(i, dropped.contains(i));
        }
    }

    /** The first row of so many clues, by numbers, that no order keeps; none if there is none. */
    private List<Integer> quarrelOf(List<Integer> chosen, int from, int count) {
        if (chosen.size() == count) {
            return keeping(chosen) == 0 ? new ArrayList<>(chosen) : null;
        }
        List<Integer> clues = clues();
        for (int i = from; i < clues.size(); i++) {
            chosen.add(clues.get(i));
            List<Integer> found = quarrelOf(chosen, i + 1, count);
            chosen.remove(chosen.size() - 1);
            if (found != null) {
                return found;
            }
        }
        return null;
    }

    private List<Integer> leastQuarrel() {
        List<Integer> found = null;
        int most = clues().size();
        for (int count = 1; found == null && count <= most && keeping(clues()) == 0; count++) {
            found = quarrelOf(new ArrayList<>(), 0, count);
        }
        return found == null ? new ArrayList<>() : found;
    }

    private void dueQuarrel(Placecard house) {
        if (sitters > 6) {
            check.refused("world " + world + ": quarrel", Check.UNSUPPORTED, () -> house.quarrel(TABLE));
            check.refused("world " + world + ": quarrelAt", Check.UNSUPPORTED, () -> house.quarrelAt(TABLE, 0));
            return;
        }
        List<Integer> least = leastQuarrel();
        due("quarrel", house.quarrel(TABLE), least.size());
        for (int i = 0; i < least.size(); i++) {
            due("quarrelAt " + i, house.quarrelAt(TABLE, i), least.get(i));
        }
        check.refused("world " + world + ": quarrelAt behind the last", Check.ELEMENT,
                () -> house.quarrelAt(TABLE, least.size()));
    }

    // ---- moves, cards in ink held

    private void dueMoves(Placecard house) {
        int fewest = 99;
        for (Order order : orders) {
            if (holdsCards(order) && order.hard == 0) {
                fewest = Math.min(fewest, moved(order));
            }
        }
        if (fewest == 99) {
            check.refused("world " + world + ": moves", Check.ELEMENT, () -> house.moves(TABLE));
        } else {
            due("moves", house.moves(TABLE), fewest);
        }
    }

    // ---- all else stays

    private static void askOrders(Placecard house) {
        for (int i = 0; i < 3; i++) {
            int table = i;
            ask(() -> house.bestBroken(table));
            ask(() -> house.bestLoss(table));
            ask(() -> house.bestAt(table, 0));
            ask(() -> house.answers(table));
            ask(() -> house.isNeeded(table, 0));
            ask(() -> house.quarrel(table));
            ask(() -> house.quarrelAt(table, 0));
            ask(() -> house.moves(table));
        }
    }

    private static void ask(Runnable question) {
        try {
            question.run();
        } catch (RuntimeException e) {
            // What is refused is looked at elsewhere; here it is only to change nothing.
            return;
        }
    }

    private void dueNothingChanged() {
        for (int part = 0; part < Probe.PARTS; part++) {
            Placecard house = house(null);
            askOrders(house);
            due("the house after questions", Probe.part(part, house), Probe.part(part, house(null)));
        }
    }

    /** A table that was set is as one that was set by hand in that order from the first. */
    private void dueArranged() {
        Order best = best();
        for (int part = 0; part < Probe.PARTS; part++) {
            Placecard house = house(null);
            due("arrange", house.arrange(TABLE), moved(best));
            due("arrange again", house.arrange(TABLE), 0);
            due("broken() then", house.broken(), best.hard);
            due("loss() then", house.loss(), best.loss);
            due("the house then", Probe.part(part, house), Probe.part(part, house(best.row)));
        }
    }
}
