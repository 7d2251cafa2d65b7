import java.util.ArrayList;
import java.util.NoSuchElementException;

/** A house with tables, guests and conditions on who sits by whom. */
public final class Placecard {
    private static final int MOST_TABLES = 6;
    private static final int FEWEST_SEATS = 2;
    private static final int MOST_SEATS = 10;
    private static final int MOST_GUESTS = 16;
    private static final int MOST_RANK = 99;
    private static final int MOST_AGE = 120;
    private static final int DISHES = 5;
    private static final int ALL_TONGUES = 31;
    private static final int MOST_CONDITIONS = 16;
    private static final int MOST_WEIGHT = 9;
    private static final int BOOKS = 3;
    private static final int MOST_EVENINGS = 20;

    private static final int MOST_TO_ORDER = 7;
    private static final int MOST_ORDERS = 5040;
    private static final int MOST_TO_QUARREL = 6;
    private static final int MOST_QUARREL_ORDERS = 720;
    // Above each count and each loss that an order can have.
    private static final int MORE_THAN_ANY = 1000;

    private static final char ROUND = 'r';
    private static final char ROW = 'h';
    private static final char LONG = 'l';

    private static final char INVITED = 'i';
    private static final char COMES = 'c';
    private static final char WAITS = 'w';
    private static final char DECLINES = 'n';

    // How a seat lies to another one. Two seats lie in exactly one of these ways to each other,
    // so a condition is told by the set of the ways that keep it.
    private static final int UNLIKE_TABLES = 1;
    private static final int RIGHT_HAND = 2;
    private static final int LEFT_HAND = 4;
    private static final int OPPOSITE = 8;
    private static final int TWO_STEPS = 16;
    private static final int FAR = 32;
    private static final int BESIDE = RIGHT_HAND | LEFT_HAND;
    private static final int ANY_LIE = UNLIKE_TABLES | BESIDE | OPPOSITE | TWO_STEPS | FAR;

    private final ArrayList<Table> tables;
    private final ArrayList<Guest> guests;
    private final ArrayList<Guest> queue;
    private final Conditions conditions;
    private final Orders orders;
    private final Quarrels quarrels;
    private final int[] lockedDishes;
    private boolean isLocked;
    private int evenings;

    public Placecard() {
        tables = new ArrayList<Table>();
        guests = new ArrayList<Guest>();
        queue = new ArrayList<Guest>();
        conditions = new Conditions();
        orders = new Orders(conditions);
        quarrels = new Quarrels();
        lockedDishes = new int[DISHES];
    }

    // ---- tables, guests

    public int addTable(char kind, int seats) throws IllegalArgumentException, IllegalStateException {
        if (kind != ROUND && kind != ROW && kind != LONG) {
            throw new IllegalArgumentException("no such kind of table");
        }
        if (!isWithin(seats, FEWEST_SEATS, MOST_SEATS)) {
            throw new IllegalArgumentException("seats are out of range");
        }
        if (kind == LONG && (seats & 1) != 0) {
            throw new IllegalArgumentException("a long table has an even number of seats");
        }
        if (tables.size() >= MOST_TABLES) {
            throw new IllegalStateException("no more tables");
        }
        Table table = new Table(tables.size(), kind, seats);
        tables.add(table);
        callWaiting();
        return table.number;
    }

    public int way(int table, int seat, int other) throws IndexOutOfBoundsException, NoSuchElementException {
        Table asked = tableBy(table);
        checkSeat(asked, seat);
        checkSeat(asked, other);
        return asked.steps[seat][other];
    }

    public int addGuest(int rank, int age, int dish, int tongues, char ear)
            throws IllegalArgumentException, IllegalStateException {
        if (!isWithin(rank, 0, MOST_RANK) || !isWithin(age, 0, MOST_AGE)) {
            throw new IllegalArgumentException("rank or age is out of range");
        }
        if (!isWithin(dish, 0, DISHES - 1) || !isWithin(tongues, 1, ALL_TONGUES)) {
            throw new IllegalArgumentException("dish or tongues are out of range");
        }
        int hears = sidesHeard(ear);
        if (hears == 0) {
            throw new IllegalArgumentException("no such ear");
        }
        if (guests.size() >= MOST_GUESTS) {
            throw new IllegalStateException("no more guests");
        }
        Guest guest = new Guest(guests.size(), rank, age, dish, tongues, hears);
        guests.add(guest);
        return guest.number;
    }

    public char reply(int guest, boolean is) throws IndexOutOfBoundsException {
        Guest asked = guestBy(guest);
        if (is) {
            accept(asked);
        } else {
            decline(asked);
        }
        return asked.state;
    }

    public char stateOf(int guest) throws IndexOutOfBoundsException {
        return guestBy(guest).state;
    }

    public int coming() {
        int count = 0;
        for (int i = 0; i < guests.size(); i++) {
            if (guests.get(i).state == COMES) {
                count++;
            }
        }
        return count;
    }

    public int waiting(int index) throws NoSuchElementException {
        if (index < 0 || index >= queue.size()) {
            throw new NoSuchElementException("nobody waits there");
        }
        return queue.get(index).number;
    }

    // ---- seats

    public int sit(int guest, int table, int seat)
            throws IndexOutOfBoundsException, NoSuchElementException, UnsupportedOperationException {
        Guest asked = guestBy(guest);
        Table goal = tableBy(table);
        checkSeat(goal, seat);
        if (asked.state != COMES || asked.isInked || goal.sitters[seat] != null) {
            throw new UnsupportedOperationException("the guest cannot sit there");
        }
        asked.leaveSeat();
        asked.takeSeat(goal, seat);
        return goal.countSitters();
    }

    public int rise(int guest) throws IndexOutOfBoundsException, UnsupportedOperationException {
        Guest asked = guestBy(guest);
        Table left = asked.table;
        if (left == null || asked.isInked) {
            throw new UnsupportedOperationException("the guest cannot rise");
        }
        asked.leaveSeat();
        return left.number;
    }

    public int seatOf(int guest) throws IndexOutOfBoundsException, NoSuchElementException {
        Guest asked = guestBy(guest);
        if (asked.table == null) {
            throw new NoSuchElementException("the guest does not sit");
        }
        return asked.seatCode();
    }

    public int at(int table, int seat) throws IndexOutOfBoundsException, NoSuchElementException {
        return sitterOn(tableBy(table), seat).number;
    }

    public boolean swap(int guest, int other) throws IndexOutOfBoundsException, UnsupportedOperationException {
        Guest one = guestBy(guest);
        Guest two = guestBy(other);
        Table oneTable = one.table;
        Table twoTable = two.table;
        if (oneTable == null || twoTable == null || one.isInked || two.isInked || guest == other) {
            throw new UnsupportedOperationException("the guests cannot change seats");
        }
        int before = loss();
        int oneSeat = one.seat;
        one.takeSeat(twoTable, two.seat);
        two.takeSeat(oneTable, oneSeat);
        return loss() < before;
    }

    public int ink(int guest) throws IndexOutOfBoundsException, UnsupportedOperationException {
        Guest asked = guestBy(guest);
        if (asked.table == null || asked.isInked) {
            throw new UnsupportedOperationException("the card cannot be written in ink");
        }
        asked.isInked = true;
        return countInked();
    }

    public int tear(int guest) throws IndexOutOfBoundsException, UnsupportedOperationException {
        Guest asked = guestBy(guest);
        if (!asked.isInked) {
            throw new UnsupportedOperationException("the card is not in ink");
        }
        asked.isInked = false;
        return countInked();
    }

    // ---- conditions

    public int addCondition(char kind, int guest, int other, int weight)
            throws IndexOutOfBoundsException, IllegalArgumentException, IllegalStateException {
        Guest one = guestBy(guest);
        Guest two = guestBy(other);
        int keeping = liesKeeping(kind, one, two);
        if (keeping == 0) {
            throw new IllegalArgumentException("no such kind of condition");
        }
        if (guest == other || !isWithin(weight, 0, MOST_WEIGHT)) {
            throw new IllegalArgumentException("both guests are the same, or the weight is out of range");
        }
        if (conditions.count() >= MOST_CONDITIONS) {
            throw new IllegalStateException("no more conditions");
        }
        return conditions.add(new Condition(one, two, keeping, weight));
    }

    public boolean drop(int condition, boolean is) throws IndexOutOfBoundsException {
        checkCondition(condition);
        Condition asked = conditions.get(condition);
        boolean wasDropped = asked.isDropped;
        asked.isDropped = is;
        return wasDropped;
    }

    public boolean isBroken(int condition) throws IndexOutOfBoundsException {
        checkCondition(condition);
        return conditions.get(condition).isViolated();
    }

    public int broken() {
        return Integer.bitCount(conditions.violated() & conditions.hard());
    }

    public int loss() {
        return conditions.weightOf(conditions.violated());
    }

    // ---- orders

    public int bestBroken(int table) throws IndexOutOfBoundsException, UnsupportedOperationException {
        Table asked = tableBy(table);
        checkNotAbove(asked, MOST_TO_ORDER);
        orders.findBest(asked);
        return orders.leastBroken;
    }

    public int bestLoss(int table) throws IndexOutOfBoundsException, UnsupportedOperationException {
        Table asked = tableBy(table);
        checkNotAbove(asked, MOST_TO_ORDER);
        orders.findBest(asked);
        return orders.leastLoss;
    }

    public int bestAt(int table, int seat)
            throws IndexOutOfBoundsException, NoSuchElementException, UnsupportedOperationException {
        Table asked = tableBy(table);
        Guest sitter = sitterOn(asked, seat);
        checkNotAbove(asked, MOST_TO_ORDER);
        orders.findBest(asked);
        return orders.bestOn(seat, sitter.number);
    }

    public int arrange(int table) throws IndexOutOfBoundsException, UnsupportedOperationException {
        Table asked = tableBy(table);
        checkNotAbove(asked, MOST_TO_ORDER);
        orders.findBest(asked);
        int moved = 0;
        for (int i = 0; i < orders.count; i++) {
            Guest guest = guests.get(orders.best[i]);
            if (guest.seat != orders.places[i]) {
                moved++;
            }
            guest.takeSeat(asked, orders.places[i]);
        }
        return moved;
    }

    public int answers(int table) throws IndexOutOfBoundsException, UnsupportedOperationException {
        Table asked = tableBy(table);
        checkNotAbove(asked, MOST_TO_ORDER);
        return orders.countBreakingJust(asked, 0);
    }

    public boolean isNeeded(int table, int condition)
            throws IndexOutOfBoundsException, UnsupportedOperationException {
        Table asked = tableBy(table);
        checkCondition(condition);
        checkNotAbove(asked, MOST_TO_ORDER);
        // An order becomes an answer without the condition if it breaks this one and no other.
        return orders.countBreakingJust(asked, 1 << condition) > 0;
    }

    public int quarrel(int table) throws IndexOutOfBoundsException, UnsupportedOperationException {
        return Integer.bitCount(leastQuarrel(table));
    }

    public int quarrelAt(int table, int index)
            throws IndexOutOfBoundsException, UnsupportedOperationException, NoSuchElementException {
        int found = leastQuarrel(table);
        if (index < 0 || index >= Integer.bitCount(found)) {
            throw new NoSuchElementException("no such condition in the quarrel");
        }
        for (int i = 0; i < index; i++) {
            found &= found - 1;
        }
        return Integer.numberOfTrailingZeros(found);
    }

    public int moves(int table)
            throws IndexOutOfBoundsException, UnsupportedOperationException, NoSuchElementException {
        Table asked = tableBy(table);
        checkNotAbove(asked, MOST_TO_ORDER);
        int fewest = orders.fewestMoves(asked);
        if (fewest == MORE_THAN_ANY) {
            throw new NoSuchElementException("no order keeps all hard conditions");
        }
        return fewest;
    }

    // ---- ranks, dishes, evenings

    public int faults(int table, int book) throws IndexOutOfBoundsException, IllegalArgumentException {
        Table asked = tableBy(table);
        checkBook(book);
        int count = 0;
        for (int seat = 0; seat < asked.size; seat++) {
            Guest honoured = asked.sitters[seat];
            for (int later = seat + 1; later < asked.size; later++) {
                Guest lesser = asked.sitters[later];
                if (honoured != null && lesser != null && isAhead(book, lesser, honoured)) {
                    count++;
                }
            }
        }
        return count;
    }

    public int first(int book, int index) throws IllegalArgumentException, NoSuchElementException {
        checkBook(book);
        for (int i = 0; i < guests.size(); i++) {
            Guest guest = guests.get(i);
            if (guest.state == COMES && countAheadOf(guest, book) == index) {
                return guest.number;
            }
        }
        throw new NoSuchElementException("no such guest in the book");
    }

    public int dishes(int dish) throws IllegalArgumentException {
        if (!isWithin(dish, 0, DISHES - 1)) {
            throw new IllegalArgumentException("no such dish");
        }
        return countEating(dish);
    }

    public int lock() {
        int sum = 0;
        for (int dish = 0; dish < DISHES; dish++) {
            lockedDishes[dish] = countEating(dish);
            sum += lockedDishes[dish];
        }
        isLocked = true;
        return sum;
    }

    public int without() {
        int sum = 0;
        for (int dish = 0; isLocked && dish < DISHES; dish++) {
            sum += Math.max(0, countEating(dish) - lockedDishes[dish]);
        }
        return sum;
    }

    public int keepEvening() throws IllegalStateException {
        if (evenings >= MOST_EVENINGS) {
            throw new IllegalStateException("no more evenings");
        }
        for (int i = 0; i < guests.size(); i++) {
            Guest guest = guests.get(i);
            for (int j = 0; j < guests.size(); j++) {
                if (guest.table != null && guest.table == guests.get(j).table) {
                    guest.meetings[j]++;
                }
            }
        }
        evenings++;
        return evenings;
    }

    public int met(int guest, int other) throws IndexOutOfBoundsException, IllegalArgumentException {
        Guest one = guestBy(guest);
        Guest two = guestBy(other);
        if (guest == other) {
            throw new IllegalArgumentException("both guests are the same");
        }
        return one.meetings[two.number];
    }

    public int unmet() {
        int count = 0;
        for (int i = 0; i < guests.size(); i++) {
            Guest guest = guests.get(i);
            for (int j = i + 1; j < guests.size(); j++) {
                if (guest.state == COMES && guests.get(j).state == COMES && guest.meetings[j] == 0) {
                    count++;
                }
            }
        }
        return count;
    }

    // ---- figures

    public long checksum() {
        long sum = 7;
        for (int i = 0; i < guests.size(); i++) {
            Guest guest = guests.get(i);
            sum = 31 * sum + guest.seatCode();
            sum = 31 * sum + guest.state;
        }
        sum = 31 * sum + loss();
        return 31 * sum + evenings;
    }

    public float seatedShare() throws ArithmeticException {
        int all = coming();
        if (all == 0) {
            throw new ArithmeticException("none comes");
        }
        int seated = 0;
        for (int i = 0; i < tables.size(); i++) {
            seated += tables.get(i).countSitters();
        }
        return (float) seated / (float) all;
    }

    public double meanRank(int table) throws IndexOutOfBoundsException, ArithmeticException {
        Table asked = tableBy(table);
        int count = asked.countSitters();
        if (count == 0) {
            throw new ArithmeticException("nobody sits there");
        }
        int sum = 0;
        for (int seat = 0; seat < asked.size; seat++) {
            Guest sitter = asked.sitters[seat];
            if (sitter != null) {
                sum += sitter.rank;
            }
        }
        return (double) sum / (double) count;
    }

    public boolean isSound() {
        int waits = 0;
        for (int i = 0; i < guests.size(); i++) {
            Guest guest = guests.get(i);
            if (!isSeatSound(guest)) {
                return false;
            }
            if (guest.state == WAITS) {
                waits++;
            }
        }
        int free = countSeats() - coming();
        return waits == queue.size() && free >= 0 && (free == 0 || waits == 0);
    }

    // ---- looking up what the caller names

    private Table tableBy(int number) {
        if (number < 0 || number >= tables.size()) {
            throw new IndexOutOfBoundsException("no such table");
        }
        return tables.get(number);
    }

    private Guest guestBy(int number) {
        if (number < 0 || number >= guests.size()) {
            throw new IndexOutOfBoundsException("no such guest");
        }
        return guests.get(number);
    }

    private Guest sitterOn(Table table, int seat) {
        checkSeat(table, seat);
        Guest sitter = table.sitters[seat];
        if (sitter == null) {
            throw new NoSuchElementException("nobody sits there");
        }
        return sitter;
    }

    private void checkCondition(int number) {
        if (number < 0 || number >= conditions.count()) {
            throw new IndexOutOfBoundsException("no such condition");
        }
    }

    private static void checkSeat(Table table, int seat) {
        if (seat < 0 || seat >= table.size) {
            throw new NoSuchElementException("no such seat");
        }
    }

    private static void checkBook(int book) {
        if (!isWithin(book, 0, BOOKS - 1)) {
            throw new IllegalArgumentException("no such book");
        }
    }

    private static void checkNotAbove(Table table, int most) {
        if (table.countSitters() > most) {
            throw new UnsupportedOperationException("too many guests sit there");
        }
    }

    private static boolean isWithin(int number, int low, int high) {
        return number >= low && number <= high;
    }

    // ---- replies

    private void accept(Guest guest) {
        if (guest.state == COMES || guest.state == WAITS) {
            return;
        }
        if (coming() < countSeats()) {
            guest.state = COMES;
        } else {
            guest.state = WAITS;
            queue.add(guest);
        }
    }

    private void decline(Guest guest) {
        if (guest.state == WAITS) {
            leaveQueue(guest);
        }
        guest.leaveSeat();
        guest.isInked = false;
        guest.state = DECLINES;
        callWaiting();
    }

    private void leaveQueue(Guest guest) {
        for (int i = queue.size() - 1; i >= 0; i--) {
            if (queue.get(i) == guest) {
                queue.remove(i);
            }
        }
    }

    private void callWaiting() {
        int free = countSeats() - coming();
        for (int n = 0; n < free && !queue.isEmpty(); n++) {
            queue.remove(0).state = COMES;
        }
    }

    private int countSeats() {
        int count = 0;
        for (int i = 0; i < tables.size(); i++) {
            count += tables.get(i).size;
        }
        return count;
    }

    // ---- counts over the guests

    private int countInked() {
        int count = 0;
        for (int i = 0; i < guests.size(); i++) {
            if (guests.get(i).isInked) {
                count++;
            }
        }
        return count;
    }

    private int countEating(int dish) {
        int count = 0;
        for (int i = 0; i < guests.size(); i++) {
            Guest guest = guests.get(i);
            if (guest.state == COMES && guest.dish == dish) {
                count++;
            }
        }
        return count;
    }

    private int countAheadOf(Guest guest, int book) {
        int count = 0;
        for (int i = 0; i < guests.size(); i++) {
            Guest other = guests.get(i);
            if (other.state == COMES && isAhead(book, other, guest)) {
                count++;
            }
        }
        return count;
    }

    private static boolean isAhead(int book, Guest guest, Guest other) {
        int own = valueIn(book, guest);
        int others = valueIn(book, other);
        return own != others ? own > others : guest.number < other.number;
    }

    private static int valueIn(int book, Guest guest) {
        if (book == 0) {
            return guest.rank;
        }
        // The book of numbers holds all guests alike, so that only their numbers tell.
        return book == 1 ? guest.age : 0;
    }

    private static boolean isSeatSound(Guest guest) {
        Table table = guest.table;
        if (table == null) {
            return !guest.isInked;
        }
        int seat = guest.seat;
        return guest.state == COMES && seat >= 0 && seat < table.size && table.sitters[seat] == guest;
    }

    // ---- conditions and quarrels

    private static int sidesHeard(char ear) {
        if (ear == 'b') {
            return BESIDE;
        }
        if (ear == 'l') {
            return LEFT_HAND;
        }
        return ear == 'r' ? RIGHT_HAND : 0;
    }

    /** The lies of the other guest's seat, seen from the guest's, that keep a condition; 0 if there is no such kind. */
    private static int liesKeeping(char kind, Guest guest, Guest other) {
        if (kind == 'b') {
            return BESIDE;
        }
        if (kind == 'n') {
            return ANY_LIE & ~BESIDE;
        }
        if (kind == 'a') {
            return FAR | UNLIKE_TABLES;
        }
        if (kind == 't') {
            return ANY_LIE & ~UNLIKE_TABLES;
        }
        if (kind == 'd') {
            return UNLIKE_TABLES;
        }
        if (kind == 'o') {
            return OPPOSITE;
        }
        if (kind == 's') {
            return (guest.tongues & other.tongues) != 0 ? ANY_LIE : ANY_LIE & ~BESIDE;
        }
        return kind == 'e' ? guest.hears : 0;
    }

    private int leastQuarrel(int table) {
        Table asked = tableBy(table);
        checkNotAbove(asked, MOST_TO_QUARREL);
        orders.collectBreaches(asked, quarrels);
        return quarrels.findLeast();
    }

    private static final class Table {
        final int number;
        final char kind;
        final int size;
        final Guest[] sitters;
        final int[][] steps;
        final int[][] lies;

        Table(int number, char kind, int size) {
            this.number = number;
            this.kind = kind;
            this.size = size;
            sitters = new Guest[size];
            steps = new int[size][size];
            lies = new int[size][size];
            for (int seat = 0; seat < size; seat++) {
                for (int other = 0; other < size; other++) {
                    steps[seat][other] = stepsBetween(seat, other);
                    lies[seat][other] = lieOf(seat, other);
                }
            }
        }

        private int stepsBetween(int seat, int other) {
            int apart = Math.abs(seat - other);
            if (kind == ROUND) {
                return Math.min(apart, size - apart);
            }
            if (kind == ROW) {
                return apart;
            }
            int half = size >> 1;
            int across = (seat < half) == (other < half) ? 0 : 1;
            return Math.abs(columnOf(seat) - columnOf(other)) + across;
        }

        private int columnOf(int seat) {
            int half = size >> 1;
            return seat < half ? seat : seat - half;
        }

        private int lieOf(int seat, int other) {
            if (rightHandOf(seat) == other) {
                return RIGHT_HAND;
            }
            if (rightHandOf(other) == seat) {
                return LEFT_HAND;
            }
            int way = stepsBetween(seat, other);
            if (way == 1) {
                return OPPOSITE;
            }
            return way >= 3 ? FAR : TWO_STEPS;
        }

        private int rightHandOf(int seat) {
            int next = seat + 1;
            if (next < size) {
                return kind == LONG && next == (size >> 1) ? -1 : next;
            }
            return kind == ROUND && size >= 3 ? 0 : -1;
        }

        int countSitters() {
            int count = 0;
            for (int seat = 0; seat < size; seat++) {
                if (sitters[seat] != null) {
                    count++;
                }
            }
            return count;
        }
    }

    private static final class Guest {
        final int number;
        final int rank;
        final int age;
        final int dish;
        final int tongues;
        final int hears;
        final int[] meetings;
        char state;
        Table table;
        int seat;
        boolean isInked;

        Guest(int number, int rank, int age, int dish, int tongues, int hears) {
            this.number = number;
            this.rank = rank;
            this.age = age;
            this.dish = dish;
            this.tongues = tongues;
            this.hears = hears;
            meetings = new int[MOST_GUESTS];
            state = INVITED;
        }

        void takeSeat(Table goal, int place) {
            table = goal;
            seat = place;
            goal.sitters[place] = this;
        }

        void leaveSeat() {
            if (table != null) {
                table.sitters[seat] = null;
            }
            table = null;
        }

        int seatCode() {
            return table == null ? -1 : 100 * table.number + seat;
        }
    }

    private static final class Condition {
        final Guest guest;
        final Guest other;
        final int keeping;
        final int weight;
        boolean isDropped;

        Condition(Guest guest, Guest other, int keeping, int weight) {
            this.guest = guest;
            this.other = other;
            this.keeping = keeping;
            this.weight = weight;
        }

        boolean isWithinTable(Table table) {
            return guest.table == table && other.table == table;
        }

        boolean isViolated() {
            Table table = guest.table;
            if (isDropped || table == null || other.table == null) {
                return false;
            }
            int lie = table == other.table ? table.lies[guest.seat][other.seat] : UNLIKE_TABLES;
            return (keeping & lie) == 0;
        }
    }

    /** The conditions; sets of them are told by bits, the bit of the condition 0 lowest. */
    private static final class Conditions {
        private final ArrayList<Condition> list;

        Conditions() {
            list = new ArrayList<Condition>();
        }

        int count() {
            return list.size();
        }

        Condition get(int number) {
            return list.get(number);
        }

        int add(Condition condition) {
            list.add(condition);
            return list.size() - 1;
        }

        int violated() {
            int found = 0;
            for (int i = 0; i < list.size(); i++) {
                if (list.get(i).isViolated()) {
                    found |= 1 << i;
                }
            }
            return found;
        }

        int hard() {
            int found = 0;
            for (int i = 0; i < list.size(); i++) {
                if (list.get(i).weight == 0) {
                    found |= 1 << i;
                }
            }
            return found;
        }

        int within(Table table) {
            int found = 0;
            for (int i = 0; i < list.size(); i++) {
                Condition condition = list.get(i);
                if (!condition.isDropped && condition.isWithinTable(table)) {
                    found |= 1 << i;
                }
            }
            return found;
        }

        int weightOf(int chosen) {
            int sum = 0;
            for (int i = 0; i < list.size(); i++) {
                if ((chosen >> i & 1) != 0) {
                    sum += list.get(i).weight;
                }
            }
            return sum;
        }
    }

    /** Goes through the orders of a table, of two the one with the lower guest on the first unlike seat first. */
    private static final class Orders {
        private final Conditions conditions;
        final int[] places;
        final int[] best;
        private final int[] movers;
        private final int[] seats;
        private final int[] inner;
        private int innerCount;
        private int outerBroken;
        private int hard;
        int count;
        int leastBroken;
        int leastLoss;

        Orders(Conditions conditions) {
            this.conditions = conditions;
            places = new int[MOST_SEATS];
            best = new int[MOST_SEATS];
            movers = new int[MOST_SEATS];
            seats = new int[MOST_GUESTS];
            inner = new int[MOST_CONDITIONS];
        }

        void findBest(Table table) {
            begin(table, true);
            leastBroken = MORE_THAN_ANY;
            leastLoss = MORE_THAN_ANY;
            boolean isMore = true;
            for (int n = 0; isMore && n < MOST_ORDERS; n++) {
                keepIfBetter(outerBroken | innerBroken(table));
                isMore = advance();
            }
        }

        private void keepIfBetter(int allBroken) {
            int breaches = Integer.bitCount(allBroken & hard);
            if (breaches > leastBroken) {
                return;
            }
            int weight = conditions.weightOf(allBroken);
            if (breaches < leastBroken || weight < leastLoss) {
                leastBroken = breaches;
                leastLoss = weight;
                System.arraycopy(movers, 0, best, 0, count);
            }
        }

        /** The guest on a seat by the order found best; one who was held stays. */
        int bestOn(int seat, int held) {
            for (int i = 0; i < count; i++) {
                if (places[i] == seat) {
                    return best[i];
                }
            }
            return held;
        }

        /** Counts the orders, cards aside, that break just the given ones of the table's hard conditions. */
        int countBreakingJust(Table table, int wanted) {
            begin(table, false);
            int found = 0;
            boolean isMore = true;
            for (int n = 0; isMore && n < MOST_ORDERS; n++) {
                if ((innerBroken(table) & hard) == wanted) {
                    found++;
                }
                isMore = advance();
            }
            return found;
        }

        void collectBreaches(Table table, Quarrels quarrels) {
            quarrels.clear();
            begin(table, false);
            boolean isMore = true;
            for (int n = 0; isMore && n < MOST_QUARREL_ORDERS; n++) {
                quarrels.add(innerBroken(table) & hard);
                isMore = advance();
            }
        }

        /** The fewest moves, or MORE_THAN_ANY if no order will do. */
        int fewestMoves(Table table) {
            begin(table, true);
            int fewest = MORE_THAN_ANY;
            boolean isMore = true;
            for (int n = 0; isMore && n < MOST_ORDERS; n++) {
                if (((outerBroken | innerBroken(table)) & hard) == 0) {
                    fewest = Math.min(fewest, countMoved(table));
                }
                isMore = advance();
            }
            return fewest;
        }

        private int countMoved(Table table) {
            int moved = 0;
            for (int i = 0; i < count; i++) {
                Guest now = table.sitters[places[i]];
                if (now != null && now.number != movers[i]) {
                    moved++;
                }
            }
            return moved;
        }

        private void begin(Table table, boolean isInkHeld) {
            sortConditions(table);
            count = 0;
            for (int seat = 0; seat < table.size; seat++) {
                Guest guest = table.sitters[seat];
                if (guest != null) {
                    seats[guest.number] = seat;
                    if (!isInkHeld || !guest.isInked) {
                        places[count] = seat;
                        insertMover(guest.number);
                    }
                }
            }
            seatMovers();
        }

        private void sortConditions(Table table) {
            int within = conditions.within(table);
            hard = conditions.hard();
            outerBroken = conditions.violated() & ~within;
            innerCount = 0;
            for (int i = 0; i < MOST_CONDITIONS; i++) {
                if ((within >> i & 1) != 0) {
                    inner[innerCount] = i;
                    innerCount++;
                }
            }
        }

        private void insertMover(int number) {
            int spot = count;
            while (spot > 0 && movers[spot - 1] > number) {
                movers[spot] = movers[spot - 1];
                spot--;
            }
            movers[spot] = number;
            count++;
        }

        private void seatMovers() {
            for (int i = 0; i < count; i++) {
                seats[movers[i]] = places[i];
            }
        }

        /** The table's own conditions that the order breaks. */
        private int innerBroken(Table table) {
            int found = 0;
            for (int i = 0; i < innerCount; i++) {
                Condition condition = conditions.get(inner[i]);
                int lie = table.lies[seats[condition.guest.number]][seats[condition.other.number]];
                if ((condition.keeping & lie) == 0) {
                    found |= 1 << inner[i];
                }
            }
            return found;
        }

        /** Goes on to the next order; false, and no change, if there is none. */
        private boolean advance() {
            int rising = count - 2;
            while (rising >= 0 && movers[rising] > movers[rising + 1]) {
                rising--;
            }
            if (rising < 0) {
                return false;
            }
            int greater = count - 1;
            while (greater > rising + 1 && movers[greater] < movers[rising]) {
                greater--;
            }
            exchange(rising, greater);
            for (int i = 1; rising + i < count - i; i++) {
                exchange(rising + i, count - i);
            }
            seatMovers();
            return true;
        }

        private void exchange(int one, int two) {
            int kept = movers[one];
            movers[one] = movers[two];
            movers[two] = kept;
        }
    }

    /** Finds the least set of conditions of which each order breaks at least one. */
    private static final class Quarrels {
        private final int[] breaches;
        private int count;

        Quarrels() {
            breaches = new int[MOST_QUARREL_ORDERS];
        }

        void clear() {
            count = 0;
        }

        /** Adds what one order breaks; what breaks all that a known order breaks tells nothing new. */
        void add(int broken) {
            for (int i = 0; i < count; i++) {
                if ((breaches[i] & broken) == breaches[i]) {
                    return;
                }
            }
            if (count < breaches.length) {
                breaches[count] = broken;
                count++;
            }
        }

        int findLeast() {
            for (int i = 0; i < count; i++) {
                if (breaches[i] == 0) {
                    return 0;
                }
            }
            int found = 0;
            for (int size = 1; found == 0 && size <= MOST_CONDITIONS; size++) {
                found = extend(breaches, count, 0, 0, size);
            }
            return found;
        }

        /** The first set with the chosen ones and some more, all from a number on, that meets all breaches; 0 if none. */
        private static int extend(int[] breaches, int count, int chosen, int from, int more) {
            int shared = -1 << from;
            int open = 0;
            for (int i = 0; i < count; i++) {
                if ((breaches[i] & chosen) == 0) {
                    shared &= breaches[i];
                    open |= breaches[i];
                }
            }
            if (more <= 1) {
                return shared == 0 ? 0 : chosen | Integer.lowestOneBit(shared);
            }
            int found = 0;
            for (int next = from; found == 0 && next < MOST_CONDITIONS; next++) {
                if ((open >> next & 1) != 0) {
                    found = extend(breaches, count, chosen | 1 << next, next + 1, more - 1);
                }
            }
            return found;
        }
    }
}
