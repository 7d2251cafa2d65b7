import java.util.function.Supplier;

/** Promises 16 to 20: conditions, kept and broken. */
public final class ConditionsTest {
    private static final Check check = new Check("ConditionsTest");

    public static void main(String[] args) {
        addCondition();
        addConditionRefused();
        besideAndNot();
        apart();
        tables();
        opposite();
        tongues();
        ears();
        lookedAtIfBothSit();
        drop();
        brokenAndLoss();
        check.end();
    }

    private static void addCondition() {
        Placecard house = new Placecard();
        House.invite(house, 3);
        String kinds = "bnatdose";
        for (int i = 0; i < 16; i++) {
            check.due("addCondition", house.addCondition(kinds.charAt(i % 8), i % 3, (i + 1) % 3, i % 10), i);
        }
        check.due("isBroken(0), nobody sits", house.isBroken(0), false);
    }

    private static void addConditionRefused() {
        check.refused("addCondition('b', -1, 0, 0)", Check.BOUNDS, House::full, x -> x.addCondition('b', -1, 0, 0));
        check.refused("addCondition('b', 0, 15, 0)", Check.BOUNDS, House::full, x -> x.addCondition('b', 0, 15, 0));
        check.refused("addCondition('b', 15, 15, 0)", Check.BOUNDS, House::full, x -> x.addCondition('b', 15, 15, 0));
        check.refused("addCondition('x', 0, 15, 10)", Check.BOUNDS, House::full, x -> x.addCondition('x', 0, 15, 10));
        for (char kind : new char[] {'x', 'B', 'r', (char) 0, (char) 65535}) {
            check.refused("addCondition(" + (int) kind + ", 0, 1, 0)", Check.ARGUMENT, House::full,
                    x -> x.addCondition(kind, 0, 1, 0));
        }
        check.refused("addCondition('b', 1, 1, 0)", Check.ARGUMENT, House::full, x -> x.addCondition('b', 1, 1, 0));
        for (int weight : new int[] {-1, 10, Integer.MIN_VALUE, Integer.MAX_VALUE}) {
            check.refused("addCondition('b', 0, 1, " + weight + ")", Check.ARGUMENT, House::full,
                    x -> x.addCondition('b', 0, 1, weight));
        }
        Supplier<Placecard> sixteen = () -> {
            Placecard house = House.full();
            for (int i = 5; i < 16; i++) {
                house.addCondition('t', 0, 1, 9);
            }
            return house;
        };
        check.refused("a 17th condition", Check.STATE, sixteen, x -> x.addCondition('b', 0, 1, 0));
        check.refused("a 17th of no kind", Check.ARGUMENT, sixteen, x -> x.addCondition('x', 0, 1, 0));
        check.refused("a 17th of no guest", Check.BOUNDS, sixteen, x -> x.addCondition('b', 0, 15, 0));
    }

    /** The answers for the guest 0 on each seat from 0 on and the guest 1 on the last one of the seats given. */
    private static void dueBroken(String table, char kind, int seat, int other, boolean want) {
        Placecard house = House.withTables(table);
        House.invite(house, 2);
        house.sit(0, 0, seat);
        house.sit(1, 0, other);
        house.addCondition(kind, 0, 1, 3);
        check.due(table + " '" + kind + "' on " + seat + " and " + other, house.isBroken(0), want);
    }

    private static void besideAndNot() {
        String[] tables = {"r2", "r3", "r5", "r5", "r5", "h2", "h4", "h4", "l2", "l6", "l6", "l6", "l6", "l6"};
        int[][] seats = {{0, 1}, {2, 0}, {0, 4}, {1, 2}, {0, 2}, {1, 0}, {0, 3}, {3, 2}, {0, 1}, {2, 3}, {0, 1}, {5, 4},
            {0, 3}, {0, 5}};
        boolean[] isBeside = {true, true, true, true, false, true, false, true, false, false, true, true, false, false};
        for (int i = 0; i < tables.length; i++) {
            dueBroken(tables[i], 'b', seats[i][0], seats[i][1], !isBeside[i]);
            dueBroken(tables[i], 'n', seats[i][0], seats[i][1], isBeside[i]);
        }
    }

    private static void apart() {
        dueBroken("r6", 'a', 0, 3, false);
        dueBroken("r6", 'a', 0, 2, true);
        dueBroken("r6", 'a', 5, 1, true);
        dueBroken("r10", 'a', 0, 5, false);
        dueBroken("h5", 'a', 4, 1, false);
        dueBroken("h5", 'a', 4, 2, true);
        dueBroken("h5", 'a', 0, 1, true);
        dueBroken("l6", 'a', 2, 3, false);
        dueBroken("l6", 'a', 0, 5, false);
        dueBroken("l6", 'a', 0, 4, true);
        dueBroken("l8", 'a', 0, 3, false);
        dueBroken("l6", 'a', 0, 3, true);
    }

    private static Placecard atTwoTables(String kinds) {
        Placecard house = House.withTables("l4 l4");
        House.invite(house, 2);
        house.sit(0, 0, 0);
        house.sit(1, 1, 1);
        for (int i = 0; i < kinds.length(); i++) {
            house.addCondition(kinds.charAt(i), 0, 1, 0);
        }
        return house;
    }

    private static void tables() {
        String kinds = "bnatdose";
        boolean[] want = {true, false, false, true, false, true, false, true};
        Placecard house = atTwoTables(kinds);
        for (int i = 0; i < want.length; i++) {
            check.due("'" + kinds.charAt(i) + "' at unlike tables", house.isBroken(i), want[i]);
        }
        dueBroken("r5", 't', 0, 3, false);
        dueBroken("r5", 't', 0, 1, false);
        dueBroken("r5", 'd', 0, 3, true);
        dueBroken("r5", 'd', 0, 1, true);
    }

    private static void opposite() {
        dueBroken("l2", 'o', 0, 1, false);
        dueBroken("l2", 'o', 1, 0, false);
        dueBroken("l4", 'o', 0, 2, false);
        dueBroken("l4", 'o', 3, 1, false);
        dueBroken("l4", 'o', 0, 1, true);
        dueBroken("l4", 'o', 1, 2, true);
        dueBroken("l10", 'o', 9, 4, false);
        dueBroken("l10", 'o', 4, 5, true);
        dueBroken("r4", 'o', 0, 2, true);
        dueBroken("r2", 'o', 0, 1, true);
        dueBroken("h4", 'o', 0, 2, true);
        dueBroken("h2", 'o', 0, 1, true);
    }

    private static void tongues() {
        Placecard house = House.withTables("l6");
        house.addGuest(1, 1, 0, 1, 'b');
        house.addGuest(1, 1, 0, 30, 'b');
        house.addGuest(1, 1, 0, 17, 'b');
        for (int i = 0; i < 3; i++) {
            house.reply(i, true);
        }
        house.addCondition('s', 0, 1, 0);
        house.addCondition('s', 0, 2, 0);
        house.addCondition('s', 2, 1, 0);
        house.sit(0, 0, 0);
        house.sit(1, 0, 1);
        house.sit(2, 0, 3);
        check.due("'s' next to each other, no tongue", house.isBroken(0), true);
        check.due("'s' opposite, a tongue", house.isBroken(1), false);
        check.due("'s' two steps apart", house.isBroken(2), false);
        house.sit(1, 0, 2);
        house.sit(2, 0, 1);
        check.due("'s' two steps apart, no tongue", house.isBroken(0), false);
        check.due("'s' next to each other, the tongue 0", house.isBroken(1), false);
        check.due("'s' next to each other, the tongue 4", house.isBroken(2), false);
        house.sit(1, 0, 3);
        check.due("'s' opposite, no tongue", house.isBroken(0), false);
    }

    /** Whether 'e' is broken for a guest with each of the ears 'b', 'l', 'r', written as "..x". */
    private static void dueEars(String table, int seat, int other, String want) {
        StringBuilder got = new StringBuilder();
        for (char ear : new char[] {'b', 'l', 'r'}) {
            Placecard house = House.withTables(table);
            house.addGuest(1, 1, 0, 1, ear);
            house.addGuest(1, 1, 0, 1, 'b');
            house.reply(0, true);
            house.reply(1, true);
            house.sit(0, 0, seat);
            house.sit(1, 0, other);
            house.addCondition('e', 0, 1, 0);
            got.append(house.isBroken(0) ? 'x' : '.');
        }
        check.due(table + " 'e' on " + seat + " and " + other + " for b, l, r", got.toString(), want);
    }

    private static void ears() {
        dueEars("h3", 0, 1, ".x.");
        dueEars("h3", 1, 0, "..x");
        dueEars("h3", 0, 2, "xxx");
        dueEars("h3", 2, 0, "xxx");
        dueEars("h2", 0, 1, ".x.");
        dueEars("h2", 1, 0, "..x");
        dueEars("r2", 0, 1, ".x.");
        dueEars("r2", 1, 0, "..x");
        dueEars("r3", 2, 0, ".x.");
        dueEars("r3", 0, 2, "..x");
        dueEars("r3", 0, 1, ".x.");
        dueEars("r5", 4, 0, ".x.");
        dueEars("r5", 0, 4, "..x");
        dueEars("r5", 0, 3, "xxx");
        dueEars("l6", 0, 1, ".x.");
        dueEars("l6", 2, 3, "xxx");
        dueEars("l6", 3, 2, "xxx");
        dueEars("l6", 4, 3, "..x");
        dueEars("l6", 5, 0, "xxx");
        dueEars("l6", 0, 5, "xxx");
        dueEars("l6", 1, 4, "xxx");
        dueEars("l2", 0, 1, "xxx");
        dueEars("l2", 1, 0, "xxx");
    }

    private static void lookedAtIfBothSit() {
        Placecard house = House.seated('h', 0, -1, 1);
        house.addCondition('b', 0, 1, 0);
        house.addCondition('b', 1, 0, 7);
        check.due("isBroken(0)", house.isBroken(0), true);
        check.due("isBroken(1), the other way round", house.isBroken(1), true);
        house.rise(1);
        check.due("isBroken(0), the other one stands", house.isBroken(0), false);
        check.due("isBroken(1), the guest stands", house.isBroken(1), false);
        check.due("broken() then", house.broken(), 0);
        check.due("loss() then", house.loss(), 0);
        house.rise(0);
        check.due("isBroken(0), both stand", house.isBroken(0), false);
        check.refused("isBroken(-1)", Check.BOUNDS, House::full, x -> x.isBroken(-1));
        check.refused("isBroken(5)", Check.BOUNDS, House::full, x -> x.isBroken(5));
    }

    private static void drop() {
        Placecard house = House.seated('h', 0, -1, 1);
        house.addCondition('b', 0, 1, 0);
        house.addCondition('b', 0, 1, 4);
        check.due("drop(0, false)", house.drop(0, false), false);
        check.due("drop(0, true)", house.drop(0, true), false);
        check.due("isBroken(0), dropped", house.isBroken(0), false);
        check.due("broken(), dropped", house.broken(), 0);
        check.due("loss(), the other one kept", house.loss(), 4);
        check.due("drop(0, true) again", house.drop(0, true), true);
        check.due("drop(1, true)", house.drop(1, true), false);
        check.due("loss(), dropped", house.loss(), 0);
        check.due("drop(0, false), taken up", house.drop(0, false), true);
        check.due("drop(0, false), again", house.drop(0, false), false);
        check.due("broken(), taken up", house.broken(), 1);
        check.refused("drop(-1, true)", Check.BOUNDS, House::full, x -> x.drop(-1, true));
        check.refused("drop(5, true)", Check.BOUNDS, House::full, x -> x.drop(5, true));
        check.refused("drop(5, false)", Check.BOUNDS, House::full, x -> x.drop(5, false));
    }

    private static void brokenAndLoss() {
        Placecard house = atTwoTables("btod");
        house.addCondition('b', 0, 1, 9);
        house.addCondition('d', 0, 1, 8);
        house.addCondition('e', 1, 0, 1);
        check.due("broken()", house.broken(), 3);
        check.due("loss()", house.loss(), 10);
        Placecard most = House.seated('r', 0, 1, 2);
        for (int i = 0; i < 16; i++) {
            most.addCondition('d', i % 3, (i + 1) % 3, 9);
        }
        check.due("loss() of all", most.loss(), 144);
        check.due("broken() of none hard", most.broken(), 0);
    }
}
