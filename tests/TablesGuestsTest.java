import java.util.function.Supplier;

/** Promises 1 to 8: a new object, tables and ways, guests and replies. */
public final class TablesGuestsTest {
    private static final Check check = new Check("TablesGuestsTest");

    public static void main(String[] args) {
        newObject();
        addTable();
        addTableRefused();
        wayAtRound();
        wayAtRow();
        wayAtLong();
        wayRefused();
        addGuest();
        addGuestRefused();
        replies();
        repliesAgain();
        waitingGuests();
        noFromSeat();
        check.end();
    }

    private static void newObject() {
        Placecard house = new Placecard();
        check.due("coming() of a new house", house.coming(), 0);
        check.due("broken() of a new house", house.broken(), 0);
        check.due("loss() of a new house", house.loss(), 0);
        check.due("lock() of a new house", house.lock(), 0);
        check.due("checksum() of a new house", house.checksum(), 7L * 31 * 31);
        check.refused("new: stateOf(0)", Check.BOUNDS, Placecard::new, x -> x.stateOf(0));
        check.refused("new: at(0, 0)", Check.BOUNDS, Placecard::new, x -> x.at(0, 0));
        check.refused("new: isBroken(0)", Check.BOUNDS, Placecard::new, x -> x.isBroken(0));
        check.refused("new: waiting(0)", Check.ELEMENT, Placecard::new, x -> x.waiting(0));
    }

    private static void addTable() {
        Placecard house = new Placecard();
        check.due("addTable('r', 2)", house.addTable('r', 2), 0);
        check.due("addTable('h', 10)", house.addTable('h', 10), 1);
        check.due("addTable('l', 2)", house.addTable('l', 2), 2);
        check.due("addTable('l', 10)", house.addTable('l', 10), 3);
        check.due("addTable('h', 3)", house.addTable('h', 3), 4);
        check.due("addTable('r', 10)", house.addTable('r', 10), 5);
    }

    private static void addTableRefused() {
        for (char kind : new char[] {'x', 'R', 'b', (char) 0, (char) 255, (char) 65535}) {
            check.refused("addTable(" + (int) kind + ", 4)", Check.ARGUMENT, House::full, x -> x.addTable(kind, 4));
        }
        for (int seats : new int[] {1, 11, 0, -2, Integer.MIN_VALUE, Integer.MAX_VALUE}) {
            for (char kind : new char[] {'r', 'h', 'l'}) {
                check.refused("addTable(" + kind + ", " + seats + ")", Check.ARGUMENT, House::full,
                        x -> x.addTable(kind, seats));
            }
        }
        for (int seats = 3; seats < 10; seats += 2) {
            int odd = seats;
            check.refused("addTable('l', " + odd + ")", Check.ARGUMENT, House::full, x -> x.addTable('l', odd));
        }
        Supplier<Placecard> six = () -> House.withTables("r2 r2 r2 r2 r2 r2");
        check.refused("a seventh table", Check.STATE, six, x -> x.addTable('r', 2));
        check.refused("a seventh table of no kind", Check.ARGUMENT, six, x -> x.addTable('z', 2));
        check.refused("a seventh odd long table", Check.ARGUMENT, six, x -> x.addTable('l', 5));
    }

    private static void dueWays(char kind, int seats, int[] fromFirst) {
        Placecard house = new Placecard();
        house.addTable(kind, seats);
        for (int other = 0; other < seats; other++) {
            check.due(kind + "" + seats + " way(0, 0, " + other + ")", house.way(0, 0, other), fromFirst[other]);
            check.due(kind + "" + seats + " way(0, " + other + ", 0)", house.way(0, other, 0), fromFirst[other]);
        }
    }

    private static void wayAtRound() {
        dueWays('r', 2, new int[] {0, 1});
        dueWays('r', 3, new int[] {0, 1, 1});
        dueWays('r', 5, new int[] {0, 1, 2, 2, 1});
        dueWays('r', 10, new int[] {0, 1, 2, 3, 4, 5, 4, 3, 2, 1});
        check.due("r7 way(0, 6, 2)", House.withTables("r7").way(0, 6, 2), 3);
    }

    private static void wayAtRow() {
        dueWays('h', 2, new int[] {0, 1});
        dueWays('h', 10, new int[] {0, 1, 2, 3, 4, 5, 6, 7, 8, 9});
        check.due("h7 way(0, 6, 2)", House.withTables("h7").way(0, 6, 2), 4);
    }

    private static void wayAtLong() {
        dueWays('l', 2, new int[] {0, 1});
        dueWays('l', 4, new int[] {0, 1, 1, 2});
        dueWays('l', 10, new int[] {0, 1, 2, 3, 4, 1, 2, 3, 4, 5});
        Placecard house = House.withTables("l6");
        check.due("l6 way(0, 2, 3)", house.way(0, 2, 3), 3);
        check.due("l6 way(0, 2, 5)", house.way(0, 2, 5), 1);
        check.due("l6 way(0, 5, 0)", house.way(0, 5, 0), 3);
        check.due("l6 way(0, 5, 3)", house.way(0, 5, 3), 2);
    }

    private static void wayRefused() {
        check.refused("way(-1, 0, 0)", Check.BOUNDS, House::full, x -> x.way(-1, 0, 0));
        check.refused("way(3, 0, 0)", Check.BOUNDS, House::full, x -> x.way(3, 0, 0));
        check.refused("way(3, 99, 0)", Check.BOUNDS, House::full, x -> x.way(3, 99, 0));
        check.refused("way(0, 5, 0)", Check.ELEMENT, House::full, x -> x.way(0, 5, 0));
        check.refused("way(0, 0, 5)", Check.ELEMENT, House::full, x -> x.way(0, 0, 5));
        check.refused("way(0, -1, 0)", Check.ELEMENT, House::full, x -> x.way(0, -1, 0));
        check.refused("way(0, 0, -1)", Check.ELEMENT, House::full, x -> x.way(0, 0, -1));
        check.refused("way(2, 0, 2)", Check.ELEMENT, House::full, x -> x.way(2, 0, 2));
    }

    private static void addGuest() {
        Placecard house = new Placecard();
        check.due("addGuest(0, 0, 0, 1, 'b')", house.addGuest(0, 0, 0, 1, 'b'), 0);
        check.due("addGuest(99, 120, 4, 31, 'l')", house.addGuest(99, 120, 4, 31, 'l'), 1);
        check.due("addGuest(99, 120, 4, 16, 'r')", house.addGuest(99, 120, 4, 16, 'r'), 2);
        check.due("stateOf(2)", house.stateOf(2), 'i');
        for (int i = 3; i < 16; i++) {
            check.due("addGuest", house.addGuest(i, i, 1, i, 'b'), i);
        }
        check.due("coming()", house.coming(), 0);
    }

    private static void addGuestRefused() {
        int[][] wrong = {{-1, 0, 0, 1}, {100, 0, 0, 1}, {0, -1, 0, 1}, {0, 121, 0, 1}, {0, 0, -1, 1}, {0, 0, 5, 1},
            {0, 0, 0, 0}, {0, 0, 0, 32}, {0, 0, 0, -1}, {Integer.MAX_VALUE, 0, 0, 1}, {0, Integer.MIN_VALUE, 0, 1}};
        for (int[] row : wrong) {
            check.refused("addGuest(" + row[0] + ", " + row[1] + ", " + row[2] + ", " + row[3] + ", 'b')",
                    Check.ARGUMENT, House::full, x -> x.addGuest(row[0], row[1], row[2], row[3], 'b'));
        }
        for (char ear : new char[] {'a', 'B', (char) 0, (char) 65535}) {
            check.refused("addGuest with ear " + (int) ear, Check.ARGUMENT, House::full,
                    x -> x.addGuest(1, 1, 1, 1, ear));
        }
        Supplier<Placecard> sixteen = () -> {
            Placecard house = House.withTables("r4");
            House.invite(house, 16);
            return house;
        };
        check.refused("a 17th guest", Check.STATE, sixteen, x -> x.addGuest(1, 1, 1, 1, 'b'));
        check.refused("a 17th guest of rank 100", Check.ARGUMENT, sixteen, x -> x.addGuest(100, 1, 1, 1, 'b'));
        check.refused("a 17th guest without ear", Check.ARGUMENT, sixteen, x -> x.addGuest(1, 1, 1, 1, 'x'));
    }

    private static void replies() {
        Placecard house = House.withTables("r2");
        for (int i = 0; i < 5; i++) {
            house.addGuest(1, 1, 0, 1, 'b');
        }
        check.due("reply(4, true)", house.reply(4, true), 'c');
        check.due("reply(0, false)", house.reply(0, false), 'n');
        check.due("reply(2, true)", house.reply(2, true), 'c');
        check.due("reply(1, true)", house.reply(1, true), 'w');
        check.due("reply(0, true) after a no", house.reply(0, true), 'w');
        check.due("stateOf(0)", house.stateOf(0), 'w');
        check.due("stateOf(1)", house.stateOf(1), 'w');
        check.due("stateOf(2)", house.stateOf(2), 'c');
        check.due("stateOf(3)", house.stateOf(3), 'i');
        check.due("coming()", house.coming(), 2);
        check.due("reply(4, false)", house.reply(4, false), 'n');
        check.due("stateOf(4)", house.stateOf(4), 'n');
        check.due("stateOf(1), who waited longest", house.stateOf(1), 'c');
        check.due("coming() again", house.coming(), 2);
        check.refused("reply(-1, true)", Check.BOUNDS, House::full, x -> x.reply(-1, true));
        check.refused("reply(15, true)", Check.BOUNDS, House::full, x -> x.reply(15, true));
        check.refused("reply(15, false)", Check.BOUNDS, House::full, x -> x.reply(15, false));
        check.refused("stateOf(-1)", Check.BOUNDS, House::full, x -> x.stateOf(-1));
        check.refused("stateOf(15)", Check.BOUNDS, House::full, x -> x.stateOf(15));
    }

    private static void repliesAgain() {
        Placecard house = House.seated('r', 0, 1);
        House.invite(house, 3);
        house.ink(0);
        check.due("reply(0, true) again", house.reply(0, true), 'c');
        check.due("seatOf(0) after it", house.seatOf(0), 0);
        check.due("tear(0) after it", house.tear(0), 0);
        check.due("reply(2, true) again", house.reply(2, true), 'w');
        check.due("waiting(0)", house.waiting(0), 2);
        check.due("waiting(2)", house.waiting(2), 4);
        check.refused("waiting(3)", Check.ELEMENT, () -> house.waiting(3));
        check.due("reply(3, false)", house.reply(3, false), 'n');
        check.due("reply(3, false) again", house.reply(3, false), 'n');
        check.due("waiting(1)", house.waiting(1), 4);
        check.due("reply(3, true)", house.reply(3, true), 'w');
        check.due("waiting(2), behind the others", house.waiting(2), 3);
        check.due("reply(3, false), the last one", house.reply(3, false), 'n');
        check.refused("waiting(2), the last one gone", Check.ELEMENT, () -> house.waiting(2));
        check.due("reply(2, false), the first one", house.reply(2, false), 'n');
        check.due("waiting(0), the first one gone", house.waiting(0), 4);
    }

    private static void waitingGuests() {
        Placecard house = new Placecard();
        House.invite(house, 8);
        check.due("coming() without a table", house.coming(), 0);
        check.due("waiting(7)", house.waiting(7), 7);
        house.reply(0, false);
        house.reply(0, true);
        house.reply(3, false);
        check.due("waiting(0)", house.waiting(0), 1);
        check.due("addTable('h', 3)", house.addTable('h', 3), 0);
        check.due("coming() with a table", house.coming(), 3);
        check.due("stateOf(4)", house.stateOf(4), 'c');
        check.due("stateOf(5)", house.stateOf(5), 'w');
        check.due("waiting(0) then", house.waiting(0), 5);
        check.due("waiting(2) then", house.waiting(2), 7);
        check.due("waiting(3) then", house.waiting(3), 0);
        house.addTable('r', 10);
        check.due("coming() with two tables", house.coming(), 7);
        check.refused("waiting(0) of none", Check.ELEMENT, () -> house.waiting(0));
        check.refused("waiting(-1)", Check.ELEMENT, House::full, x -> x.waiting(-1));
        check.refused("waiting(2) of two", Check.ELEMENT, House::full, x -> x.waiting(2));
        check.refused("waiting(the greatest)", Check.ELEMENT, House::full, x -> x.waiting(Integer.MAX_VALUE));
    }

    private static void noFromSeat() {
        Placecard house = House.seated('r', 0, 1, 2);
        House.invite(house, 1);
        house.ink(1);
        house.ink(2);
        check.due("reply(1, false)", house.reply(1, false), 'n');
        check.due("stateOf(3)", house.stateOf(3), 'c');
        check.refused("seatOf(1)", Check.ELEMENT, () -> house.seatOf(1));
        check.refused("seatOf(3), who comes only", Check.ELEMENT, () -> house.seatOf(3));
        check.refused("at(0, 1)", Check.ELEMENT, () -> house.at(0, 1));
        check.refused("tear(1)", Check.UNSUPPORTED, () -> house.tear(1));
        check.due("tear(2)", house.tear(2), 0);
        check.due("sit(3, 0, 1)", house.sit(3, 0, 1), 3);
    }
}
