import java.util.function.IntFunction;

/** Calls that can be refused for more than one reason: each pair of reasons at once; the one documented first tells. */
public final class ReasonsTest {
    private interface Call {
        void run(Placecard house, int[] args);
    }

    /** What makes a call wrong: some of its arguments, given as "place value, place value". */
    private static final class Reason {
        final String name;
        final Class<?> thrown;
        final int[][] changes;

        Reason(String name, Class<?> thrown, int... changes) {
            this.name = name;
            this.thrown = thrown;
            this.changes = new int[changes.length / 2][];
            for (int i = 0; i < this.changes.length; i++) {
                this.changes[i] = new int[] {changes[2 * i], changes[2 * i + 1]};
            }
        }

        void apply(int[] args) {
            for (int[] change : changes) {
                args[change[0]] = change[1];
            }
        }

        boolean goesWith(Reason other) {
            for (int[] change : changes) {
                for (int[] others : other.changes) {
                    if (change[0] == others[0] && change[1] != others[1]) {
                        return false;
                    }
                }
            }
            return true;
        }
    }

    private static final int LEAST = Integer.MIN_VALUE;
    private static final int GREATEST = Integer.MAX_VALUE;

    private static final Check check = new Check("ReasonsTest");

    public static void main(String[] args) {
        addTable();
        way();
        addGuest();
        sit();
        at();
        swap();
        addCondition();
        bestAt();
        isNeeded();
        quarrelAt();
        moves();
        faults();
        first();
        met();
        threeAtOnce();
        check.end();
    }

    /** Without a reason the call is accepted; with one, or with two at once, what the first one asks for is thrown. */
    private static void pairs(String call, IntFunction<Placecard> build, Call run, int[] right, Reason... reasons) {
        int state = right.length - 1;
        check.accepted(call + " rightly", () -> build.apply(right[state]), x -> run.run(x, right));
        for (int i = 0; i < reasons.length; i++) {
            for (int j = i; j < reasons.length; j++) {
                if (reasons[i].goesWith(reasons[j])) {
                    int[] args = right.clone();
                    reasons[i].apply(args);
                    reasons[j].apply(args);
                    check.refused(call + ": " + reasons[i].name + (i == j ? "" : ", " + reasons[j].name),
                            reasons[i].thrown, () -> build.apply(args[state]), x -> run.run(x, args));
                }
            }
        }
    }

    // In each row of arguments the last one is no argument, but tells the house that is asked.

    private static void addTable() {
        IntFunction<Placecard> build = tables -> House.withTables("r2 h3 l4 r2 h3 l4".substring(0, 3 * tables - 1));
        Call run = (x, a) -> x.addTable((char) a[0], a[1]);
        Reason six = new Reason("six tables", Check.STATE, 2, 6);
        for (char kind : new char[] {'r', 'h', 'l'}) {
            pairs("2: addTable " + kind, build, run, new int[] {kind, 4, 5},
                    new Reason("no kind", Check.ARGUMENT, 0, 'x'),
                    new Reason("one seat", Check.ARGUMENT, 1, 1),
                    new Reason("eleven seats", Check.ARGUMENT, 1, 11),
                    new Reason("the fewest seats", Check.ARGUMENT, 1, LEAST),
                    new Reason("the most seats", Check.ARGUMENT, 1, GREATEST),
                    new Reason("an odd long one", Check.ARGUMENT, 0, 'l', 1, 5),
                    new Reason("an odd one that is too short", Check.ARGUMENT, 0, 'l', 1, 1),
                    new Reason("an odd one that is too long", Check.ARGUMENT, 0, 'l', 1, 11),
                    six);
        }
    }

    private static void way() {
        pairs("3: way", state -> House.full(), (x, a) -> x.way(a[0], a[1], a[2]), new int[] {1, 3, 0, 0},
                new Reason("no table", Check.BOUNDS, 0, 3),
                new Reason("the table -1", Check.BOUNDS, 0, -1),
                new Reason("no seat", Check.ELEMENT, 1, 4),
                new Reason("the seat -1", Check.ELEMENT, 1, -1),
                new Reason("the greatest seat", Check.ELEMENT, 1, GREATEST),
                new Reason("no other seat", Check.ELEMENT, 2, 4),
                new Reason("the other seat -1", Check.ELEMENT, 2, -1),
                new Reason("the least other seat", Check.ELEMENT, 2, LEAST));
    }

    private static Placecard withGuests(int guests) {
        Placecard house = House.full();
        while (guests > 15) {
            house.addGuest(1, 1, 1, 1, 'b');
            guests--;
        }
        return house;
    }

    private static void addGuest() {
        Call run = (x, a) -> x.addGuest(a[0], a[1], a[2], a[3], (char) a[4]);
        pairs("4: addGuest", ReasonsTest::withGuests, run, new int[] {99, 120, 4, 31, 'r', 15},
                new Reason("rank -1", Check.ARGUMENT, 0, -1),
                new Reason("rank 100", Check.ARGUMENT, 0, 100),
                new Reason("age -1", Check.ARGUMENT, 1, -1),
                new Reason("age 121", Check.ARGUMENT, 1, 121),
                new Reason("dish -1", Check.ARGUMENT, 2, -1),
                new Reason("dish 5", Check.ARGUMENT, 2, 5),
                new Reason("no tongue", Check.ARGUMENT, 3, 0),
                new Reason("tongues 32", Check.ARGUMENT, 3, 32),
                new Reason("no ear", Check.ARGUMENT, 4, 'x'),
                new Reason("sixteen guests", Check.STATE, 5, 16));
    }

    private static void sit() {
        pairs("9: sit", state -> House.full(), (x, a) -> x.sit(a[0], a[1], a[2]), new int[] {7, 2, 0, 0},
                new Reason("no guest", Check.BOUNDS, 0, 15),
                new Reason("the guest -1", Check.BOUNDS, 0, -1),
                new Reason("no table", Check.BOUNDS, 1, 3),
                new Reason("the table -1", Check.BOUNDS, 1, -1),
                new Reason("no seat", Check.ELEMENT, 2, 5),
                new Reason("the seat -1", Check.ELEMENT, 2, -1),
                new Reason("invited", Check.UNSUPPORTED, 0, 14),
                new Reason("a no", Check.UNSUPPORTED, 0, 13),
                new Reason("waiting", Check.UNSUPPORTED, 0, 12),
                new Reason("in ink", Check.UNSUPPORTED, 0, 6),
                new Reason("somebody sits there", Check.UNSUPPORTED, 1, 1, 2, 3),
                new Reason("the guest sits there", Check.UNSUPPORTED, 0, 7, 1, 2, 2, 1),
                new Reason("the guest sits there in ink", Check.UNSUPPORTED, 0, 6, 1, 1, 2, 0));
    }

    private static void at() {
        pairs("12: at", state -> House.full(), (x, a) -> x.at(a[0], a[1]), new int[] {1, 0, 0},
                new Reason("no table", Check.BOUNDS, 0, 3),
                new Reason("the table -1", Check.BOUNDS, 0, -1),
                new Reason("the greatest table, a seat that would be free", Check.BOUNDS, 0, GREATEST, 1, 1),
                new Reason("no seat", Check.ELEMENT, 1, 5),
                new Reason("the seat -1", Check.ELEMENT, 1, -1),
                new Reason("nobody there", Check.ELEMENT, 0, 1, 1, 1));
    }

    private static void swap() {
        pairs("13: swap", state -> House.full(), (x, a) -> x.swap(a[0], a[1]), new int[] {0, 7, 0},
                new Reason("no guest", Check.BOUNDS, 0, 15),
                new Reason("the guest -1", Check.BOUNDS, 0, -1),
                new Reason("no other", Check.BOUNDS, 1, 15),
                new Reason("the other -1", Check.BOUNDS, 1, -1),
                new Reason("both no guest", Check.BOUNDS, 0, 16, 1, 16),
                new Reason("who stands", Check.UNSUPPORTED, 0, 8),
                new Reason("who is invited", Check.UNSUPPORTED, 0, 14),
                new Reason("in ink", Check.UNSUPPORTED, 0, 2),
                new Reason("the other stands", Check.UNSUPPORTED, 1, 9),
                new Reason("the other in ink", Check.UNSUPPORTED, 1, 6),
                new Reason("the same", Check.UNSUPPORTED, 0, 1, 1, 1),
                new Reason("the same who stands", Check.UNSUPPORTED, 0, 8, 1, 8),
                new Reason("the same in ink", Check.UNSUPPORTED, 0, 6, 1, 6));
        check.refused("13: swap(15, 8), the other stands", Check.BOUNDS, House::full, x -> x.swap(15, 8));
        check.refused("13: swap(15, 6), the other in ink", Check.BOUNDS, House::full, x -> x.swap(15, 6));
    }

    private static Placecard withConditions(int conditions) {
        Placecard house = House.full();
        for (int i = 5; i < conditions; i++) {
            house.addCondition('t', i % 5, 5, i % 10);
        }
        return house;
    }

    private static void addCondition() {
        Call run = (x, a) -> x.addCondition((char) a[0], a[1], a[2], a[3]);
        pairs("16: addCondition", ReasonsTest::withConditions, run, new int[] {'e', 0, 1, 9, 15},
                new Reason("no guest", Check.BOUNDS, 1, 15),
                new Reason("the guest -1", Check.BOUNDS, 1, -1),
                new Reason("no other", Check.BOUNDS, 2, 15),
                new Reason("the other -1", Check.BOUNDS, 2, -1),
                new Reason("both no guest", Check.BOUNDS, 1, 15, 2, 15),
                new Reason("no kind", Check.ARGUMENT, 0, 'x'),
                new Reason("the same", Check.ARGUMENT, 1, 3, 2, 3),
                new Reason("weight -1", Check.ARGUMENT, 3, -1),
                new Reason("weight 10", Check.ARGUMENT, 3, 10),
                new Reason("sixteen conditions", Check.STATE, 4, 16));
    }

    /** Eight guests at a table for nine, its seat 2 free, or two at one for three; a condition that no order keeps. */
    private static Placecard crowded(int state) {
        Placecard house = House.withTables("r9 h3");
        House.invite(house, 10);
        int[] seats = {0, 1, 3, 4, 5, 6, 7, 8};
        for (int i = 0; i < seats.length; i++) {
            house.sit(i, 0, seats[i]);
        }
        house.sit(8, 1, 0);
        house.sit(9, 1, 1);
        house.addCondition('b', 8, 9, 0);
        house.addCondition('t', 0, 8, 0);
        house.drop(1, state == 0);
        return house;
    }

    private static void bestAt() {
        pairs("23: bestAt", ReasonsTest::crowded, (x, a) -> x.bestAt(a[0], a[1]), new int[] {1, 0, 0},
                new Reason("no table", Check.BOUNDS, 0, 2),
                new Reason("the table -1", Check.BOUNDS, 0, -1),
                new Reason("no seat", Check.ELEMENT, 1, 9),
                new Reason("the seat -1", Check.ELEMENT, 1, -1),
                new Reason("nobody there", Check.ELEMENT, 0, 1, 1, 2),
                new Reason("nobody there among eight", Check.ELEMENT, 0, 0, 1, 2),
                new Reason("eight guests", Check.UNSUPPORTED, 0, 0));
    }

    private static void isNeeded() {
        pairs("26: isNeeded", ReasonsTest::crowded, (x, a) -> x.isNeeded(a[0], a[1]), new int[] {1, 0, 0},
                new Reason("no table", Check.BOUNDS, 0, 2),
                new Reason("the table -1", Check.BOUNDS, 0, -1),
                new Reason("no condition", Check.BOUNDS, 1, 2),
                new Reason("the condition -1", Check.BOUNDS, 1, -1),
                new Reason("eight guests", Check.UNSUPPORTED, 0, 0));
    }

    /** Seven guests at a table, or two at another one, who shall not sit at one table. */
    private static Placecard quarrelling(int state) {
        Placecard house = House.withTables("r9 h3");
        House.invite(house, 9);
        for (int i = 0; i < 9; i++) {
            house.sit(i, i / 7, i % 7);
        }
        house.addCondition('d', 0, 1, 0);
        house.addCondition('d', 7, 8, 0);
        return house;
    }

    private static void quarrelAt() {
        pairs("28: quarrelAt", ReasonsTest::quarrelling, (x, a) -> x.quarrelAt(a[0], a[1]), new int[] {1, 0, 0},
                new Reason("no table", Check.BOUNDS, 0, 2),
                new Reason("the table -1", Check.BOUNDS, 0, -1),
                new Reason("seven guests", Check.UNSUPPORTED, 0, 0),
                new Reason("none behind the last", Check.ELEMENT, 1, 1),
                new Reason("none before the first", Check.ELEMENT, 1, -1));
    }

    private static void moves() {
        pairs("29: moves", ReasonsTest::crowded, (x, a) -> x.moves(a[0]), new int[] {1, 0},
                new Reason("no table", Check.BOUNDS, 0, 2),
                new Reason("the table -1", Check.BOUNDS, 0, -1),
                new Reason("eight guests", Check.UNSUPPORTED, 0, 0),
                new Reason("no such order", Check.ELEMENT, 1, 1));
    }

    private static void faults() {
        pairs("30: faults", state -> House.full(), (x, a) -> x.faults(a[0], a[1]), new int[] {2, 2, 0},
                new Reason("no table", Check.BOUNDS, 0, 3),
                new Reason("the table -1", Check.BOUNDS, 0, -1),
                new Reason("the book 3", Check.ARGUMENT, 1, 3),
                new Reason("the book -1", Check.ARGUMENT, 1, -1),
                new Reason("the greatest book", Check.ARGUMENT, 1, GREATEST));
    }

    private static void first() {
        pairs("31: first", state -> House.full(), (x, a) -> x.first(a[0], a[1]), new int[] {2, 10, 0},
                new Reason("the book 3", Check.ARGUMENT, 0, 3),
                new Reason("the book -1", Check.ARGUMENT, 0, -1),
                new Reason("the least book", Check.ARGUMENT, 0, LEAST),
                new Reason("none behind the last", Check.ELEMENT, 1, 11),
                new Reason("none before the first", Check.ELEMENT, 1, -1));
    }

    private static void met() {
        pairs("36: met", state -> House.full(), (x, a) -> x.met(a[0], a[1]), new int[] {0, 14, 0},
                new Reason("no guest", Check.BOUNDS, 0, 15),
                new Reason("the guest -1", Check.BOUNDS, 0, -1),
                new Reason("no other", Check.BOUNDS, 1, 15),
                new Reason("the other -1", Check.BOUNDS, 1, -1),
                new Reason("both no guest", Check.BOUNDS, 0, 16, 1, 16),
                new Reason("the same", Check.ARGUMENT, 0, 5, 1, 5));
    }

    private static void threeAtOnce() {
        check.refused("9: sit(15, 3, -1)", Check.BOUNDS, House::full, x -> x.sit(15, 3, -1));
        check.refused("9: sit(14, 3, -1)", Check.BOUNDS, House::full, x -> x.sit(14, 3, -1));
        check.refused("9: sit(15, 1, 0)", Check.BOUNDS, House::full, x -> x.sit(15, 1, 0));
        check.refused("2: addTable('x', -1) of six", Check.ARGUMENT, () -> House.withTables("r2 r2 r2 r2 r2 r2"),
                x -> x.addTable('x', -1));
        check.refused("16: addCondition('x', 15, 15, 10) of sixteen", Check.BOUNDS, () -> withConditions(16),
                x -> x.addCondition('x', 15, 15, 10));
        check.refused("16: addCondition('x', 3, 3, 10) of sixteen", Check.ARGUMENT, () -> withConditions(16),
                x -> x.addCondition('x', 3, 3, 10));
        check.refused("4: addGuest(100, 121, 5, 32, 'x') of sixteen", Check.ARGUMENT, () -> withGuests(16),
                x -> x.addGuest(100, 121, 5, 32, 'x'));
        check.refused("23: bestAt(2, -1)", Check.BOUNDS, () -> crowded(1), x -> x.bestAt(2, -1));
        check.refused("23: bestAt(0, -1)", Check.ELEMENT, () -> crowded(1), x -> x.bestAt(0, -1));
    }
}
