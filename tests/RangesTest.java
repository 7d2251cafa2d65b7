import java.util.function.IntFunction;
import java.util.function.Supplier;

/** The range of each argument, promise by promise: both sides of each bound, and what lies far beyond. */
public final class RangesTest {
    private interface Open {
        void call(Placecard house, int number);
    }

    private static final Check check = new Check("RangesTest");

    public static void main(String[] args) {
        seatsOfTables();
        oddSeats();
        figuresOfGuests();
        weights();
        signs();
        numbersOfTables();
        numbersOfGuests();
        numbersOfConditions();
        numbersOfSeats();
        placesInTheQueue();
        placesInTheBooks();
        placesInTheQuarrel();
        books();
        dishes();
        check.end();
    }

    /** Accepted are low and high; refused are those beside and far beyond. None is accepted if high is below low. */
    private static void range(String call, Class<?> thrown, Supplier<Placecard> build, int low, int high, Open run) {
        for (int number : new int[] {low, high}) {
            if (low <= high) {
                check.accepted(call + " for " + number, build, x -> run.call(x, number));
            }
        }
        int[] beyond = {Integer.MIN_VALUE, -65536 + low, -256 + low, -1000, low - 1, high + 1, high + 32, 1000,
            high + 256, high + 65536, Integer.MAX_VALUE};
        for (int number : beyond) {
            check.refused(call + " for " + number, thrown, build, x -> run.call(x, number));
        }
    }

    // ---- promises 2, 4 and 16

    private static void seatsOfTables() {
        range("2: addTable('r', n)", Check.ARGUMENT, House::full, 2, 10, (x, n) -> x.addTable('r', n));
        range("2: addTable('h', n)", Check.ARGUMENT, House::full, 2, 10, (x, n) -> x.addTable('h', n));
        range("2: addTable('l', n)", Check.ARGUMENT, House::full, 2, 10, (x, n) -> x.addTable('l', n));
    }

    private static void oddSeats() {
        for (int i = 2; i <= 10; i++) {
            int seats = i;
            check.accepted("2: addTable('r', " + i + ")", House::full, x -> x.addTable('r', seats));
            check.accepted("2: addTable('h', " + i + ")", House::full, x -> x.addTable('h', seats));
            if (seats % 2 == 0) {
                check.accepted("2: addTable('l', " + i + ")", House::full, x -> x.addTable('l', seats));
            } else {
                check.refused("2: addTable('l', " + i + ")", Check.ARGUMENT, House::full, x -> x.addTable('l', seats));
            }
        }
    }

    private static void figuresOfGuests() {
        range("4: addGuest(n, 1, 1, 1, 'b')", Check.ARGUMENT, House::full, 0, 99,
                (x, n) -> x.addGuest(n, 1, 1, 1, 'b'));
        range("4: addGuest(1, n, 1, 1, 'l')", Check.ARGUMENT, House::full, 0, 120,
                (x, n) -> x.addGuest(1, n, 1, 1, 'l'));
        range("4: addGuest(1, 1, n, 1, 'r')", Check.ARGUMENT, House::full, 0, 4,
                (x, n) -> x.addGuest(1, 1, n, 1, 'r'));
        range("4: addGuest(1, 1, 1, n, 'b')", Check.ARGUMENT, House::full, 1, 31,
                (x, n) -> x.addGuest(1, 1, 1, n, 'b'));
    }

    private static void weights() {
        for (char sign : "bnatdose".toCharArray()) {
            range("16: addCondition('" + sign + "', 0, 1, n)", Check.ARGUMENT, House::full, 0, 9,
                    (x, n) -> x.addCondition(sign, 0, 1, n));
        }
    }

    /** Each sign that there is, but those that name a kind, is refused; a house takes as many as it has calls for. */
    private static void signsAreRefused(String call, String kinds, Open run) {
        for (char sign : kinds.toCharArray()) {
            check.accepted(call + " for the sign " + sign, House::full, x -> run.call(x, sign));
        }
        for (char sign : new char[] {0, ' ', 'x', 'A', '0', '?', 127, 128, 255, 256, 65535}) {
            check.refused(call + " for the sign " + (int) sign, Check.ARGUMENT, House::full, x -> run.call(x, sign));
        }
        Placecard house = House.full();
        for (int sign = 0; sign < 65536; sign++) {
            int now = sign;
            if (sign % 256 == 0) {
                house = House.full();
            }
            Placecard asked = house;
            if (kinds.indexOf(sign) < 0) {
                check.refused(call + " for the sign " + sign, Check.ARGUMENT, () -> run.call(asked, now));
            }
            if (sign % 256 == 255) {
                check.due("the house after " + call + " for signs up to " + sign, Probe.part(2, house),
                        Probe.part(2, House.full()));
            }
        }
    }

    private static void signs() {
        signsAreRefused("2: addTable(sign, 4)", "rhl", (x, sign) -> x.addTable((char) sign, 4));
        signsAreRefused("2: addTable(sign, 3)", "rh", (x, sign) -> x.addTable((char) sign, 3));
        signsAreRefused("4: addGuest(1, 1, 1, 1, sign)", "blr", (x, sign) -> x.addGuest(1, 1, 1, 1, (char) sign));
        signsAreRefused("16: addCondition(sign, 0, 1, 0)", "bnatdose",
                (x, sign) -> x.addCondition((char) sign, 0, 1, 0));
        signsAreRefused("16: addCondition(sign, 0, 1, 9)", "bnatdose",
                (x, sign) -> x.addCondition((char) sign, 0, 1, 9));
    }

    // ---- the numbers of tables, guests and conditions: in a house without any, with some, and with all that may be

    /** Tables of each kind with two who sit at each and a free seat; one guest more is invited. */
    private static Placecard tables(int count) {
        Placecard house = new Placecard();
        for (int table = 0; table < count; table++) {
            house.addTable("rhl".charAt(table % 3), 4);
        }
        for (int guest = 0; guest < 2 * count; guest++) {
            house.reply(house.addGuest(10, 10, 0, 1, 'b'), true);
            house.sit(guest, guest / 2, guest % 2);
        }
        house.addGuest(10, 10, 0, 1, 'b');
        return house;
    }

    private static void byTables(String call, Open run) {
        for (int count : new int[] {0, 3, 6}) {
            range(call + " of " + count + " tables", Check.BOUNDS, () -> tables(count), 0, count - 1, run);
        }
    }

    private static void numbersOfTables() {
        byTables("3: way(n, 0, 1)", (x, n) -> x.way(n, 0, 1));
        byTables("9: sit(0, n, 2)", (x, n) -> x.sit(0, n, 2));
        byTables("12: at(n, 0)", (x, n) -> x.at(n, 0));
        byTables("21: bestBroken(n)", (x, n) -> x.bestBroken(n));
        byTables("22: bestLoss(n)", (x, n) -> x.bestLoss(n));
        byTables("23: bestAt(n, 0)", (x, n) -> x.bestAt(n, 0));
        byTables("24: arrange(n)", (x, n) -> x.arrange(n));
        byTables("25: answers(n)", (x, n) -> x.answers(n));
        byTables("27: quarrel(n)", (x, n) -> x.quarrel(n));
        byTables("29: moves(n)", (x, n) -> x.moves(n));
        byTables("30: faults(n, 0)", (x, n) -> x.faults(n, 0));
        byTables("40: meanRank(n)", (x, n) -> x.meanRank(n));
        for (int count : new int[] {1, 3, 6}) {
            range("26: isNeeded(n, 0) of " + count + " tables", Check.BOUNDS, () -> quarrelling(count), 0, count - 1,
                    (x, n) -> x.isNeeded(n, 0));
            range("28: quarrelAt(n, 0) of " + count + " tables", Check.BOUNDS, () -> quarrelling(count), 0, count - 1,
                    (x, n) -> x.quarrelAt(n, 0));
        }
    }

    /** The two at each table must not sit at one table. */
    private static Placecard quarrelling(int count) {
        Placecard house = tables(count);
        for (int table = 0; table < count; table++) {
            house.addCondition('d', 2 * table, 2 * table + 1, 0);
        }
        return house;
    }

    /** Guests who all sit, at a table for six and one for ten; a third table is free. */
    private static Placecard guests(int count) {
        Placecard house = House.withTables("r6 h10 l4");
        House.invite(house, count);
        for (int guest = 0; guest < count; guest++) {
            house.sit(guest, guest < 6 ? 0 : 1, guest < 6 ? guest : guest - 6);
        }
        return house;
    }

    private static Placecard inkedGuests(int count) {
        Placecard house = guests(count);
        for (int guest = 0; guest < count; guest++) {
            house.ink(guest);
        }
        return house;
    }

    private static void byGuests(String call, IntFunction<Placecard> build, Open run) {
        for (int count : new int[] {0, 5, 16}) {
            range(call + " of " + count + " guests", Check.BOUNDS, () -> build.apply(count), 0, count - 1, run);
        }
    }

    private static void numbersOfGuests() {
        byGuests("5: reply(n, true)", RangesTest::guests, (x, n) -> x.reply(n, true));
        byGuests("5: reply(n, false)", RangesTest::guests, (x, n) -> x.reply(n, false));
        byGuests("6: stateOf(n)", RangesTest::guests, (x, n) -> x.stateOf(n));
        byGuests("9: sit(n, 2, 0)", RangesTest::guests, (x, n) -> x.sit(n, 2, 0));
        byGuests("10: rise(n)", RangesTest::guests, (x, n) -> x.rise(n));
        byGuests("11: seatOf(n)", RangesTest::guests, (x, n) -> x.seatOf(n));
        byGuests("13: swap(n, 1)", RangesTest::guests, (x, n) -> x.swap(n, 1));
        byGuests("13: swap(1, n)", RangesTest::guests, (x, n) -> x.swap(1, n));
        byGuests("14: ink(n)", RangesTest::guests, (x, n) -> x.ink(n));
        byGuests("15: tear(n)", RangesTest::inkedGuests, (x, n) -> x.tear(n));
        byGuests("16: addCondition('t', n, 1, 0)", RangesTest::guests, (x, n) -> x.addCondition('t', n, 1, 0));
        byGuests("16: addCondition('t', 1, n, 0)", RangesTest::guests, (x, n) -> x.addCondition('t', 1, n, 0));
        byGuests("36: met(n, 1)", RangesTest::guests, (x, n) -> x.met(n, 1));
        byGuests("36: met(1, n)", RangesTest::guests, (x, n) -> x.met(1, n));
    }

    private static Placecard conditions(int count) {
        Placecard house = guests(8);
        for (int i = 0; i < count; i++) {
            house.addCondition("bnatdose".charAt(i % 8), i % 7, 7, i % 4);
        }
        return house;
    }

    private static void byConditions(String call, Open run) {
        for (int count : new int[] {0, 5, 16}) {
            range(call + " of " + count + " conditions", Check.BOUNDS, () -> conditions(count), 0, count - 1, run);
        }
    }

    private static void numbersOfConditions() {
        byConditions("17: drop(n, true)", (x, n) -> x.drop(n, true));
        byConditions("17: drop(n, false)", (x, n) -> x.drop(n, false));
        byConditions("18: isBroken(n)", (x, n) -> x.isBroken(n));
        byConditions("26: isNeeded(0, n)", (x, n) -> x.isNeeded(0, n));
    }

    // ---- seats

    /** A table between two others, with two who sit on its first and its last seat. */
    private static Placecard withEnds(char kind, int seats) {
        Placecard house = House.withTables("h10 " + kind + seats + " h10");
        House.invite(house, 3);
        house.sit(0, 1, 0);
        house.sit(1, 1, seats - 1);
        return house;
    }

    private static Placecard withoutSitters(char kind, int seats) {
        Placecard house = House.withTables("h10 " + kind + seats + " h10");
        House.invite(house, 1);
        return house;
    }

    private static void numbersOfSeats() {
        for (String table : new String[] {"r2", "r3", "r9", "r10", "h2", "h3", "h9", "h10", "l2", "l4", "l8", "l10"}) {
            char kind = table.charAt(0);
            int seats = Integer.parseInt(table.substring(1));
            Supplier<Placecard> ends = () -> withEnds(kind, seats);
            range(table + " 3: way(1, n, 0)", Check.ELEMENT, ends, 0, seats - 1, (x, n) -> x.way(1, n, 0));
            range(table + " 3: way(1, 0, n)", Check.ELEMENT, ends, 0, seats - 1, (x, n) -> x.way(1, 0, n));
            range(table + " 12: at(1, n)", Check.ELEMENT, ends, 0, seats - 1, (x, n) -> x.at(1, n));
            range(table + " 23: bestAt(1, n)", Check.ELEMENT, ends, 0, seats - 1, (x, n) -> x.bestAt(1, n));
            range(table + " 9: sit(0, 1, n)", Check.ELEMENT, () -> withoutSitters(kind, seats), 0, seats - 1,
                    (x, n) -> x.sit(0, 1, n));
        }
    }

    // ---- what is counted from 0, without a greatest one

    private static void placesInTheQueue() {
        for (int count : new int[] {0, 1, 16}) {
            Supplier<Placecard> waiting = () -> {
                Placecard house = new Placecard();
                House.invite(house, count);
                return house;
            };
            range("8: waiting(n) of " + count, Check.ELEMENT, waiting, 0, count - 1, (x, n) -> x.waiting(n));
        }
    }

    private static void placesInTheBooks() {
        for (int count : new int[] {0, 1, 5, 16}) {
            for (int i = 0; i < 3; i++) {
                int book = i;
                range("31: first(" + book + ", n) of " + count, Check.ELEMENT, () -> guests(count), 0, count - 1,
                        (x, n) -> x.first(book, n));
            }
        }
    }

    /** The guest 0 shall sit by each other one of a row; three are one too many. */
    private static Placecard besideTheFirst(int others) {
        Placecard house = guests(4);
        house.addTable('h', 4);
        for (int guest = 0; guest < 4; guest++) {
            house.sit(guest, 3, guest);
        }
        for (int other = 1; other <= others; other++) {
            house.addCondition('b', 0, other, 0);
        }
        return house;
    }

    private static void placesInTheQuarrel() {
        range("28: quarrelAt(3, n) of none", Check.ELEMENT, () -> besideTheFirst(2), 0, -1,
                (x, n) -> x.quarrelAt(3, n));
        range("28: quarrelAt(3, n) of three", Check.ELEMENT, () -> besideTheFirst(3), 0, 2,
                (x, n) -> x.quarrelAt(3, n));
        range("28: quarrelAt(0, n) of nobody", Check.ELEMENT, () -> besideTheFirst(3), 0, -1,
                (x, n) -> x.quarrelAt(0, n));
        range("28: quarrelAt(0, n) of one", Check.ELEMENT, () -> quarrelling(1), 0, 0, (x, n) -> x.quarrelAt(0, n));
    }

    // ---- books and dishes

    private static void books() {
        range("30: faults(0, n)", Check.ARGUMENT, House::full, 0, 2, (x, n) -> x.faults(0, n));
        range("30: faults(0, n) of nobody", Check.ARGUMENT, () -> guests(0), 0, 2, (x, n) -> x.faults(0, n));
        range("31: first(n, 0)", Check.ARGUMENT, House::full, 0, 2, (x, n) -> x.first(n, 0));
    }

    private static void dishes() {
        range("32: dishes(n)", Check.ARGUMENT, House::full, 0, 4, (x, n) -> x.dishes(n));
        range("32: dishes(n) of a new house", Check.ARGUMENT, Placecard::new, 0, 4, (x, n) -> x.dishes(n));
    }
}
