import java.util.ArrayList;
import java.util.Arrays;
import java.util.Collections;
import java.util.LinkedHashMap;
import java.util.List;
import java.util.Map;
import java.util.NoSuchElementException;
import java.util.TreeMap;
import java.util.TreeSet;

/** The document again, written slowly and in another way than the program, to compare the two on long runs. */
final class SlowHouse {
    private static final class Table {
        char kind;
        int seats;

        boolean isNext(int a, int b) {
            if (kind == 'l' && Math.min(a, b) == seats / 2 - 1 && Math.max(a, b) == seats / 2) {
                return false;
            }
            boolean isEnds = Math.min(a, b) == 0 && Math.max(a, b) == seats - 1;
            return Math.abs(a - b) == 1 || kind == 'r' && seats >= 3 && isEnds;
        }

        boolean isOpposite(int a, int b) {
            return kind == 'l' && Math.abs(a - b) == seats / 2;
        }

        /** The steps, found by going from seat to seat. */
        int way(int from, int to) {
            TreeSet<Integer> reached = new TreeSet<>(List.of(from));
            int steps = 0;
            while (!reached.contains(to)) {
                TreeSet<Integer> more = new TreeSet<>(reached);
                for (int a : reached) {
                    for (int b = 0; b < seats; b++) {
                        if (isNext(a, b) || isOpposite(a, b)) {
                            more.add(b);
                        }
                    }
                }
                reached = more;
                steps++;
            }
            return steps;
        }

        boolean isRightHand(int seat, int hand) {
            if (!isNext(seat, hand)) {
                return false;
            }
            boolean isRoundEnd = kind == 'r' && seats >= 3 && seat == seats - 1 && hand == 0;
            return hand == seat + 1 || isRoundEnd;
        }
    }

    private static final class Guest {
        int rank;
        int age;
        int dish;
        int tongues;
        char ear;
        char state = 'i';
        int[] place;
        boolean isInked;
    }

    private static final class Condition {
        char kind;
        int guest;
        int other;
        int weight;
        boolean isDropped;
    }

    private final List<Table> tables = new ArrayList<>();
    private final List<Guest> guests = new ArrayList<>();
    private final List<Integer> queue = new ArrayList<>();
    private final List<Condition> conditions = new ArrayList<>();
    private final List<Map<Integer, Integer>> evenings = new ArrayList<>();
    private int[] locked;

    private static void argument(boolean isRight) {
        if (!isRight) {
            throw new IllegalArgumentException();
        }
    }

    private static void state(boolean isRight) {
        if (!isRight) {
            throw new IllegalStateException();
        }
    }

    private static void element(boolean isThere) {
        if (!isThere) {
            throw new NoSuchElementException();
        }
    }

    private static void supported(boolean isRight) {
        if (!isRight) {
            throw new UnsupportedOperationException();
        }
    }

    private static void inList(List<?> list, int index) {
        if (index < 0 || index >= list.size()) {
            throw new IndexOutOfBoundsException();
        }
    }

    int addTable(char kind, int seats) {
        argument("rhl".indexOf(kind) >= 0 && seats >= 2 && seats <= 10 && (kind != 'l' || seats % 2 == 0));
        state(tables.size() < 6);
        Table table = new Table();
        table.kind = kind;
        table.seats = seats;
        tables.add(table);
        promote();
        return tables.size() - 1;
    }

    private int seats() {
        return tables.stream().mapToInt(t -> t.seats).sum();
    }

    private void promote() {
        while (!queue.isEmpty() && coming() < seats()) {
            guests.get(queue.remove(0)).state = 'c';
        }
    }

    int way(int table, int seat, int other) {
        inList(tables, table);
        int seats = tables.get(table).seats;
        element(seat >= 0 && seat < seats && other >= 0 && other < seats);
        return tables.get(table).way(seat, other);
    }

    int addGuest(int rank, int age, int dish, int tongues, char ear) {
        argument(rank >= 0 && rank <= 99 && age >= 0 && age <= 120 && dish >= 0 && dish <= 4);
        argument(tongues >= 1 && tongues <= 31 && "blr".indexOf(ear) >= 0);
        state(guests.size() < 16);
        Guest guest = new Guest();
        guest.rank = rank;
        guest.age = age;
        guest.dish = dish;
        guest.tongues = tongues;
        guest.ear = ear;
        guests.add(guest);
        return guests.size() - 1;
    }

    char reply(int guest, boolean is) {
        inList(guests, guest);
        Guest one = guests.get(guest);
        boolean isYesNow = one.state == 'c' || one.state == 'w';
        if (is && !isYesNow) {
            one.state = coming() < seats() ? 'c' : 'w';
            if (one.state == 'w') {
                queue.add(guest);
            }
        }
        if (!is && one.state != 'n') {
            queue.remove((Integer) guest);
            one.state = 'n';
            one.place = null;
            one.isInked = false;
            promote();
        }
        return one.state;
    }

    char stateOf(int guest) {
        inList(guests, guest);
        return guests.get(guest).state;
    }

    int coming() {
        return (int) guests.stream().filter(g -> g.state == 'c').count();
    }

    int waiting(int index) {
        element(index >= 0 && index < queue.size());
        return queue.get(index);
    }

    /** The guests of a table by their seats. */
    private TreeMap<Integer, Integer> sitters(int table) {
        TreeMap<Integer, Integer> found = new TreeMap<>();
        for (int i = 0; i < guests.size(); i++) {
            int[] place = guests.get(i).place;
            if (place != null && place[0] == table) {
                found.put(place[1], i);
            }
        }
        return found;
    }

    private void seatOf(int table, int seat) {
        element(seat >= 0 && seat < tables.get(table).seats);
    }

    int sit(int guest, int table, int seat) {
        inList(guests, guest);
        inList(tables, table);
        seatOf(table, seat);
        Guest one = guests.get(guest);
        supported(one.state == 'c' && !one.isInked && !sitters(table).containsKey(seat));
        one.place = new int[] {table, seat};
        return sitters(table).size();
    }

    int rise(int guest) {
        inList(guests, guest);
        Guest one = guests.get(guest);
        supported(one.place != null && !one.isInked);
        int table = one.place[0];
        one.place = null;
        return table;
    }

    int seatOf(int guest) {
        inList(guests, guest);
        Guest one = guests.get(guest);
        element(one.place != null);
        return 100 * one.place[0] + one.place[1];
    }

    int at(int table, int seat) {
        inList(tables, table);
        seatOf(table, seat);
        element(sitters(table).containsKey(seat));
        return sitters(table).get(seat);
    }

    boolean swap(int guest, int other) {
        inList(guests, guest);
        inList(guests, other);
        Guest one = guests.get(guest);
        Guest two = guests.get(other);
        supported(one.place != null && two.place != null && !one.isInked && !two.isInked && guest != other);
        int before = loss();
        int[] place = one.place;
        one.place = two.place;
        two.place = place;
        return loss() < before;
    }

    private int inked() {
        return (int) guests.stream().filter(g -> g.isInked).count();
    }

    int ink(int guest) {
        inList(guests, guest);
        supported(guests.get(guest).place != null && !guests.get(guest).isInked);
        guests.get(guest).isInked = true;
        return inked();
    }

    int tear(int guest) {
        inList(guests, guest);
        supported(guests.get(guest).isInked);
        guests.get(guest).isInked = false;
        return inked();
    }

    int addCondition(char kind, int guest, int other, int weight) {
        inList(guests, guest);
        inList(guests, other);
        argument("bnatdose".indexOf(kind) >= 0 && guest != other && weight >= 0 && weight <= 9);
        state(conditions.size() < 16);
        Condition condition = new Condition();
        condition.kind = kind;
        condition.guest = guest;
        condition.other = other;
        condition.weight = weight;
        conditions.add(condition);
        return conditions.size() - 1;
    }

    boolean drop(int condition, boolean is) {
        inList(conditions, condition);
        boolean was = conditions.get(condition).isDropped;
        conditions.get(condition).isDropped = is;
        return was;
    }

    private boolean isViolated(Condition condition) {
        Guest guest = guests.get(condition.guest);
        Guest other = guests.get(condition.other);
        if (condition.isDropped || guest.place == null || other.place == null) {
            return false;
        }
        Table table = tables.get(guest.place[0]);
        boolean isOne = guest.place[0] == other.place[0];
        int seat = guest.place[1];
        int hand = other.place[1];
        boolean isNext = isOne && table.isNext(seat, hand);
        switch (condition.kind) {
            case 'b':
                return !isNext;
            case 'n':
                return isNext;
            case 'a':
                return isOne && table.way(seat, hand) < 3;
            case 't':
                return !isOne;
            case 'd':
                return isOne;
            case 'o':
                return !isOne || !table.isOpposite(seat, hand);
            case 's':
                return isNext && (guest.tongues & other.tongues) == 0;
            default:
                boolean isHeardRight = guest.ear != 'l' && isOne && table.isRightHand(seat, hand);
                boolean isHeardLeft = guest.ear != 'r' && isOne && table.isRightHand(hand, seat);
                return !isHeardRight && !isHeardLeft;
        }
    }

    boolean isBroken(int condition) {
        inList(conditions, condition);
        return isViolated(conditions.get(condition));
    }

    int broken() {
        return (int) conditions.stream().filter(c -> c.weight == 0 && isViolated(c)).count();
    }

    int loss() {
        return conditions.stream().filter(this::isViolated).mapToInt(c -> c.weight).sum();
    }

    /** What an order of a table looks like: its guests by seats, the broken conditions, and the figures. */
    private static final class Order {
        List<Integer> row;
        TreeSet<Integer> broken;
        int hard;
        int loss;
        int moved;
    }

    private List<Order> orders(int table, boolean isInkHeld) {
        TreeMap<Integer, Integer> now = sitters(table);
        List<Order> found = new ArrayList<>();
        place(table, new ArrayList<>(now.keySet()), new ArrayList<>(now.values()), new ArrayList<>(), isInkHeld, found);
        for (Map.Entry<Integer, Integer> entry : now.entrySet()) {
            guests.get(entry.getValue()).place = new int[] {table, entry.getKey()};
        }
        return found;
    }

    private void place(int table, List<Integer> seats, List<Integer> now, List<Integer> row, boolean isInkHeld,
            List<Order> found) {
        int next = row.size();
        if (next == seats.size()) {
            found.add(look(now, row));
            return;
        }
        List<Integer> left = new ArrayList<>(now);
        left.removeAll(row);
        Collections.sort(left);
        for (int guest : left) {
            boolean isHeldHere = guests.get(now.get(next)).isInked;
            boolean isHeld = guests.get(guest).isInked;
            if (isInkHeld && (isHeld || isHeldHere) && guest != now.get(next)) {
                continue;
            }
            guests.get(guest).place = new int[] {table, seats.get(next)};
            row.add(guest);
            place(table, seats, now, row, isInkHeld, found);
            row.remove(next);
        }
    }

    private Order look(List<Integer> now, List<Integer> row) {
        Order order = new Order();
        order.row = new ArrayList<>(row);
        order.broken = new TreeSet<>();
        for (int i = 0; i < conditions.size(); i++) {
            if (isViolated(conditions.get(i))) {
                order.broken.add(i);
            }
        }
        order.hard = broken();
        order.loss = loss();
        for (int i = 0; i < row.size(); i++) {
            order.moved += row.get(i).equals(now.get(i)) ? 0 : 1;
        }
        return order;
    }

    private void notAbove(int table, int most) {
        supported(sitters(table).size() <= most);
    }

    private Order best(int table) {
        inList(tables, table);
        notAbove(table, 7);
        Order best = null;
        for (Order order : orders(table, true)) {
            if (best == null || order.hard < best.hard || order.hard == best.hard && order.loss < best.loss) {
                best = order;
            }
        }
        return best;
    }

    int bestBroken(int table) {
        return best(table).hard;
    }

    int bestLoss(int table) {
        return best(table).loss;
    }

    int bestAt(int table, int seat) {
        at(table, seat);
        return best(table).row.get(sitters(table).headMap(seat).size());
    }

    int arrange(int table) {
        Order best = best(table);
        List<Integer> seats = new ArrayList<>(sitters(table).keySet());
        for (int i = 0; i < seats.size(); i++) {
            guests.get(best.row.get(i)).place = new int[] {table, seats.get(i)};
        }
        return best.moved;
    }

    /** The hard conditions, not dropped, of which both guests sit at a table. */
    private TreeSet<Integer> clues(int table) {
        TreeSet<Integer> found = new TreeSet<>();
        for (int i = 0; i < conditions.size(); i++) {
            Condition condition = conditions.get(i);
            boolean isThere = sitters(table).containsValue(condition.guest)
                    && sitters(table).containsValue(condition.other);
            if (condition.weight == 0 && !condition.isDropped && isThere) {
                found.add(i);
            }
        }
        return found;
    }

    private int answersBy(int table, TreeSet<Integer> clues) {
        int count = 0;
        for (Order order : orders(table, false)) {
            if (Collections.disjoint(order.broken, clues)) {
                count++;
            }
        }
        return count;
    }

    int answers(int table) {
        inList(tables, table);
        notAbove(table, 7);
        return answersBy(table, clues(table));
    }

    boolean isNeeded(int table, int condition) {
        inList(tables, table);
        inList(conditions, condition);
        notAbove(table, 7);
        TreeSet<Integer> fewer = clues(table);
        fewer.remove(condition);
        return answersBy(table, fewer) > answersBy(table, clues(table));
    }

    List<Integer> leastQuarrel(int table) {
        inList(tables, table);
        notAbove(table, 6);
        List<Integer> clues = new ArrayList<>(clues(table));
        TreeSet<Integer> breaches = new TreeSet<>();
        for (Order order : orders(table, false)) {
            int bits = 0;
            for (int i = 0; i < clues.size(); i++) {
                bits |= order.broken.contains(clues.get(i)) ? 1 << i : 0;
            }
            breaches.add(bits);
        }
        List<Integer> least = null;
        for (int chosen = 0; chosen < 1 << clues.size(); chosen++) {
            int bits = chosen;
            if (breaches.stream().allMatch(b -> (b & bits) != 0)) {
                List<Integer> row = new ArrayList<>();
                for (int i = 0; i < clues.size(); i++) {
                    if ((bits >> i) % 2 == 1) {
                        row.add(clues.get(i));
                    }
                }
                if (least == null || isLess(row, least)) {
                    least = row;
                }
            }
        }
        return least == null ? new ArrayList<>() : least;
    }

    private static boolean isLess(List<Integer> row, List<Integer> other) {
        if (row.size() != other.size()) {
            return row.size() < other.size();
        }
        int[] one = row.stream().mapToInt(i -> i).toArray();
        int[] two = other.stream().mapToInt(i -> i).toArray();
        return Arrays.compare(one, two) < 0;
    }

    int quarrel(int table) {
        return leastQuarrel(table).size();
    }

    int quarrelAt(int table, int index) {
        List<Integer> found = leastQuarrel(table);
        element(index >= 0 && index < found.size());
        return found.get(index);
    }

    int moves(int table) {
        inList(tables, table);
        notAbove(table, 7);
        int fewest = 99;
        for (Order order : orders(table, true)) {
            if (order.hard == 0) {
                fewest = Math.min(fewest, order.moved);
            }
        }
        element(fewest < 99);
        return fewest;
    }

    /** The guests by a book. */
    private List<Integer> sortedBy(int book, List<Integer> row) {
        List<Integer> sorted = new ArrayList<>(row);
        Collections.sort(sorted);
        if (book == 0) {
            sorted.sort((a, b) -> guests.get(b).rank - guests.get(a).rank);
        }
        if (book == 1) {
            sorted.sort((a, b) -> guests.get(b).age - guests.get(a).age);
        }
        return sorted;
    }

    int faults(int table, int book) {
        inList(tables, table);
        argument(book >= 0 && book <= 2);
        List<Integer> row = new ArrayList<>(sitters(table).values());
        List<Integer> sorted = sortedBy(book, row);
        int count = 0;
        for (int i = 0; i < row.size(); i++) {
            for (int j = i + 1; j < row.size(); j++) {
                count += sorted.indexOf(row.get(j)) < sorted.indexOf(row.get(i)) ? 1 : 0;
            }
        }
        return count;
    }

    private List<Integer> comers() {
        List<Integer> found = new ArrayList<>();
        for (int i = 0; i < guests.size(); i++) {
            if (guests.get(i).state == 'c') {
                found.add(i);
            }
        }
        return found;
    }

    int first(int book, int index) {
        argument(book >= 0 && book <= 2);
        element(index >= 0 && index < comers().size());
        return sortedBy(book, comers()).get(index);
    }

    int dishes(int dish) {
        argument(dish >= 0 && dish <= 4);
        return (int) comers().stream().filter(i -> guests.get(i).dish == dish).count();
    }

    int lock() {
        locked = new int[] {dishes(0), dishes(1), dishes(2), dishes(3), dishes(4)};
        return Arrays.stream(locked).sum();
    }

    int without() {
        int sum = 0;
        for (int dish = 0; locked != null && dish < 5; dish++) {
            sum += dishes(dish) > locked[dish] ? dishes(dish) - locked[dish] : 0;
        }
        return sum;
    }

    int keepEvening() {
        state(evenings.size() < 20);
        Map<Integer, Integer> evening = new LinkedHashMap<>();
        for (int i = 0; i < guests.size(); i++) {
            if (guests.get(i).place != null) {
                evening.put(i, guests.get(i).place[0]);
            }
        }
        evenings.add(evening);
        return evenings.size();
    }

    int met(int guest, int other) {
        inList(guests, guest);
        inList(guests, other);
        argument(guest != other);
        return (int) evenings.stream()
                .filter(e -> e.containsKey(guest) && e.get(guest).equals(e.get(other))).count();
    }

    int unmet() {
        int count = 0;
        for (int one : comers()) {
            for (int two : comers()) {
                count += one < two && met(one, two) == 0 ? 1 : 0;
            }
        }
        return count;
    }

    long checksum() {
        long sum = 7;
        for (Guest guest : guests) {
            sum = sum * 31 + (guest.place == null ? -1 : 100 * guest.place[0] + guest.place[1]);
            sum = sum * 31 + guest.state;
        }
        return (sum * 31 + loss()) * 31 + evenings.size();
    }

    float seatedShare() {
        if (coming() == 0) {
            throw new ArithmeticException();
        }
        long seated = guests.stream().filter(g -> g.place != null).count();
        return (float) seated / (float) coming();
    }

    double meanRank(int table) {
        inList(tables, table);
        if (sitters(table).isEmpty()) {
            throw new ArithmeticException();
        }
        int sum = sitters(table).values().stream().mapToInt(i -> guests.get(i).rank).sum();
        return (double) sum / (double) sitters(table).size();
    }
}
