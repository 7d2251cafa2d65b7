import java.util.function.Supplier;

/** Promises 21 to 29: best orders, riddles, quarrels and moves. */
public final class OrdersTest {
    private static final Check check = new Check("OrdersTest");

    public static void main(String[] args) {
        best();
        bestIsFirstOfLike();
        bestWithInk();
        bestWithOtherTables();
        bestAtRefused();
        arrange();
        answers();
        isNeeded();
        quarrel();
        quarrelIsFirstOfLike();
        moves();
        onlyTheLastOrder();
        crowded();
        noSuchTable();
        emptyTable();
        check.end();
    }

    private static String bestRow(Placecard house, int table, int seats) {
        StringBuilder row = new StringBuilder();
        for (int seat = 0; seat < seats; seat++) {
            row.append(house.bestAt(table, seat)).append(' ');
        }
        return row.toString().trim();
    }

    private static void best() {
        Placecard house = House.seated('h', 0, 1, 2, 3);
        house.addCondition('b', 0, 3, 0);
        house.addCondition('b', 0, 2, 5);
        house.addCondition('n', 0, 1, 2);
        check.due("bestBroken(0)", house.bestBroken(0), 0);
        check.due("bestLoss(0)", house.bestLoss(0), 0);
        check.due("bestAt(0, ..)", bestRow(house, 0, 4), "1 2 0 3");
        check.due("broken() stays", house.broken(), 1);
        check.due("at(0, 0) stays", house.at(0, 0), 0);
        house.addCondition('d', 0, 3, 0);
        house.addCondition('d', 1, 3, 9);
        check.due("bestBroken(0) of what cannot be kept", house.bestBroken(0), 1);
        check.due("bestLoss(0) of what cannot be kept", house.bestLoss(0), 9);

        Placecard hardFirst = House.seated('h', 0, 1, 2);
        hardFirst.addCondition('b', 0, 2, 0);
        hardFirst.addCondition('n', 0, 2, 9);
        check.due("bestBroken(0), hard ones first", hardFirst.bestBroken(0), 0);
        check.due("bestLoss(0), hard ones first", hardFirst.bestLoss(0), 9);
        hardFirst.drop(0, true);
        check.due("bestLoss(0), the hard one dropped", hardFirst.bestLoss(0), 0);
    }

    private static void bestIsFirstOfLike() {
        Placecard none = House.seated('h', 3, 1, 2, 0);
        check.due("bestAt(0, ..) without conditions", bestRow(none, 0, 4), "0 1 2 3");
        check.due("bestBroken(0) without conditions", none.bestBroken(0), 0);
        Placecard gaps = House.seated('r', 2, -1, 0, -1, 1);
        gaps.addCondition('b', 0, 2, 0);
        check.due("bestAt(0, 0) with free seats", gaps.bestAt(0, 0), 0);
        check.due("bestAt(0, 2) with free seats", gaps.bestAt(0, 2), 1);
        check.due("bestAt(0, 4) with free seats", gaps.bestAt(0, 4), 2);
        check.due("bestBroken(0) with free seats", gaps.bestBroken(0), 0);
        Placecard seven = House.seated('r', 6, 5, 4, 3, 2, 1, 0);
        seven.addCondition('b', 0, 6, 1);
        seven.addCondition('n', 0, 1, 1);
        check.due("bestAt(0, ..) of seven", bestRow(seven, 0, 7), "0 2 1 3 4 5 6");
    }

    private static void bestWithInk() {
        Placecard house = House.seated('h', 3, 2, 1, 0);
        house.addCondition('b', 0, 3, 4);
        house.ink(3);
        check.due("bestAt(0, ..), 3 in ink", bestRow(house, 0, 4), "3 0 1 2");
        house.ink(0);
        check.due("bestAt(0, ..), 3 and 0 in ink", bestRow(house, 0, 4), "3 1 2 0");
        check.due("bestLoss(0), 3 and 0 in ink", house.bestLoss(0), 4);
        house.tear(3);
        check.due("bestAt(0, ..), 3 torn", bestRow(house, 0, 4), "1 2 3 0");
        house.ink(1);
        house.ink(2);
        house.ink(3);
        check.due("bestAt(0, ..), all in ink", bestRow(house, 0, 4), "3 2 1 0");
        check.due("arrange(0), all in ink", house.arrange(0), 0);
    }

    private static void bestWithOtherTables() {
        Placecard house = House.withTables("h3 h3");
        House.invite(house, 6);
        for (int i = 0; i < 6; i++) {
            house.sit(i, i / 3, i % 3);
        }
        house.addCondition('b', 0, 2, 0);
        house.addCondition('b', 3, 5, 0);
        house.addCondition('b', 3, 5, 2);
        house.addCondition('t', 0, 3, 0);
        house.addCondition('t', 1, 4, 3);
        check.due("bestBroken(0) of all", house.bestBroken(0), 2);
        check.due("bestBroken(1) of all", house.bestBroken(1), 2);
        check.due("bestLoss(0) of all", house.bestLoss(0), 5);
        check.due("bestLoss(1) of all", house.bestLoss(1), 3);
        check.due("answers(0), other tables aside", house.answers(0), 4);
    }

    private static void bestAtRefused() {
        Supplier<Placecard> nine = () -> House.seated('r', 0, 1, 2, 3, 4, 5, 6, 7, -1);
        check.refused("bestAt(1, 0)", Check.BOUNDS, nine, x -> x.bestAt(1, 0));
        check.refused("bestAt(-1, 0)", Check.BOUNDS, nine, x -> x.bestAt(-1, 0));
        check.refused("bestAt(1, 99)", Check.BOUNDS, nine, x -> x.bestAt(1, 99));
        check.refused("bestAt(0, 9)", Check.ELEMENT, nine, x -> x.bestAt(0, 9));
        check.refused("bestAt(0, -1)", Check.ELEMENT, nine, x -> x.bestAt(0, -1));
        check.refused("bestAt(0, 8), free", Check.ELEMENT, nine, x -> x.bestAt(0, 8));
        check.refused("bestAt(0, 0) of eight", Check.UNSUPPORTED, nine, x -> x.bestAt(0, 0));
        check.refused("bestAt(1, 1), free", Check.ELEMENT, House::full, x -> x.bestAt(1, 1));
    }

    private static void arrange() {
        Placecard house = House.seated('h', 0, 1, 2, 3);
        house.addCondition('b', 0, 3, 0);
        house.addCondition('b', 0, 2, 5);
        house.addCondition('n', 0, 1, 2);
        check.due("arrange(0)", house.arrange(0), 3);
        check.due("seatOf(1)", house.seatOf(1), 0);
        check.due("seatOf(2)", house.seatOf(2), 1);
        check.due("seatOf(0)", house.seatOf(0), 2);
        check.due("seatOf(3)", house.seatOf(3), 3);
        check.due("at(0, 0)", house.at(0, 0), 1);
        check.due("at(0, 2)", house.at(0, 2), 0);
        check.due("broken()", house.broken(), 0);
        check.due("loss()", house.loss(), 0);
        check.due("arrange(0) again", house.arrange(0), 0);
        check.due("isSound()", house.isSound(), true);

        Placecard held = House.seated('h', 3, -1, 2, 1, 0);
        held.ink(2);
        check.due("arrange(0), 2 in ink", held.arrange(0), 2);
        check.due("at(0, 0)", held.at(0, 0), 0);
        check.due("at(0, 2)", held.at(0, 2), 2);
        check.due("at(0, 4)", held.at(0, 4), 3);
        check.refused("at(0, 1), still free", Check.ELEMENT, () -> held.at(0, 1));
        check.due("tear(2), still in ink", held.tear(2), 0);
    }

    private static void answers() {
        Placecard house = House.seated('h', 0, 1, 2, 3);
        check.due("answers(0) without conditions", house.answers(0), 24);
        house.addCondition('b', 0, 1, 0);
        check.due("answers(0), 0 by 1", house.answers(0), 12);
        house.addCondition('b', 1, 2, 0);
        check.due("answers(0), 1 by 2", house.answers(0), 4);
        house.addCondition('e', 1, 2, 5);
        check.due("answers(0), soft ones aside", house.answers(0), 4);
        house.ink(3);
        check.due("answers(0), cards aside", house.answers(0), 4);
        house.addCondition('d', 3, 2, 0);
        check.due("answers(0), none", house.answers(0), 0);
        house.drop(3, true);
        house.drop(0, true);
        check.due("answers(0), two dropped", house.answers(0), 12);
        check.due("answers(0) of seven", House.seated('r', 0, 1, 2, 3, 4, 5, 6).answers(0), 5040);
        check.due("answers(0) of one", House.seated('r', 0, -1).answers(0), 1);

        Placecard apart = House.withTables("h2 h2");
        House.invite(apart, 3);
        apart.sit(0, 0, 0);
        apart.sit(1, 0, 1);
        apart.sit(2, 1, 0);
        apart.addCondition('b', 0, 2, 0);
        check.due("answers(0), a broken one with another table", apart.answers(0), 2);
        check.due("answers(1), a broken one with another table", apart.answers(1), 1);
    }

    private static void isNeeded() {
        Placecard house = House.seated('h', 0, 1, 2, 3);
        house.addCondition('b', 0, 1, 0);
        house.addCondition('n', 0, 3, 0);
        house.addCondition('t', 0, 2, 0);
        house.addCondition('b', 0, 1, 0);
        house.addCondition('b', 2, 3, 1);
        check.due("isNeeded(0, 0), told twice", house.isNeeded(0, 0), false);
        check.due("isNeeded(0, 1)", house.isNeeded(0, 1), true);
        check.due("isNeeded(0, 2), always kept", house.isNeeded(0, 2), false);
        check.due("isNeeded(0, 4), soft", house.isNeeded(0, 4), false);
        house.drop(3, true);
        check.due("isNeeded(0, 0), told once", house.isNeeded(0, 0), true);
        check.due("isNeeded(0, 3), dropped", house.isNeeded(0, 3), false);
        house.addCondition('d', 0, 1, 0);
        check.due("isNeeded(0, 5), the one that spoils all", house.isNeeded(0, 5), true);
        check.due("isNeeded(0, 1), spoilt by another", house.isNeeded(0, 1), false);
        check.due("answers(0) stays", house.answers(0), 0);

        Placecard three = House.seated('r', 2, 1, 0);
        three.addCondition('t', 0, 1, 0);
        check.due("isNeeded(0, 0), no order breaks it", three.isNeeded(0, 0), false);
        check.due("isNeeded(0, 0) for just one answer more", oneAnswerMore().isNeeded(0, 0), true);

        Placecard ears = House.full();
        check.due("isNeeded(1, 0), of another table", ears.isNeeded(1, 0), false);
        check.due("isNeeded(0, 0), cards aside", ears.isNeeded(0, 0), true);
        check.refused("isNeeded(3, 0)", Check.BOUNDS, House::full, x -> x.isNeeded(3, 0));
        check.refused("isNeeded(-1, 0)", Check.BOUNDS, House::full, x -> x.isNeeded(-1, 0));
        check.refused("isNeeded(0, 5)", Check.BOUNDS, House::full, x -> x.isNeeded(0, 5));
        check.refused("isNeeded(0, -1)", Check.BOUNDS, House::full, x -> x.isNeeded(0, -1));
    }

    /** Two at a row; the first one hears the other by the right ear alone, and so sits on the first seat. */
    private static Placecard oneAnswerMore() {
        Placecard house = House.withTables("h2");
        house.addGuest(1, 1, 0, 1, 'r');
        house.addGuest(1, 1, 0, 1, 'b');
        house.reply(0, true);
        house.reply(1, true);
        house.sit(0, 0, 1);
        house.sit(1, 0, 0);
        house.addCondition('e', 0, 1, 0);
        return house;
    }

    private static void dueQuarrel(String call, Placecard house, int... want) {
        check.due(call + ": quarrel(0)", house.quarrel(0), want.length);
        for (int i = 0; i < want.length; i++) {
            check.due(call + ": quarrelAt(0, " + i + ")", house.quarrelAt(0, i), want[i]);
        }
        check.refused(call + ": quarrelAt behind the last", Check.ELEMENT, () -> house.quarrelAt(0, want.length));
        check.refused(call + ": quarrelAt(0, -1)", Check.ELEMENT, () -> house.quarrelAt(0, -1));
    }

    private static void quarrel() {
        Placecard house = House.seated('h', 0, 1, 2, 3);
        dueQuarrel("no conditions", house);
        house.addCondition('b', 0, 1, 0);
        house.addCondition('b', 0, 2, 0);
        dueQuarrel("two that go together", house);
        house.addCondition('b', 0, 3, 0);
        dueQuarrel("three by one", house, 0, 1, 2);
        house.addCondition('n', 0, 2, 0);
        dueQuarrel("two that say and deny", house, 1, 3);
        house.addCondition('d', 2, 3, 2);
        dueQuarrel("soft ones aside", house, 1, 3);
        house.addCondition('o', 1, 3, 0);
        dueQuarrel("one that cannot be kept", house, 5);
        house.drop(5, true);
        house.drop(1, true);
        dueQuarrel("dropped ones aside", house);
        house.drop(1, false);
        house.ink(0);
        dueQuarrel("cards aside", house, 1, 3);
        house.rise(2);
        dueQuarrel("who stands aside", house, 0, 2);
        house.rise(3);
        dueQuarrel("two who sit together", house);
    }

    private static void quarrelIsFirstOfLike() {
        Placecard house = House.seated('h', 0, 1, 2, 3);
        house.addCondition('t', 0, 1, 0);
        house.addCondition('b', 2, 3, 0);
        house.addCondition('b', 0, 1, 0);
        house.addCondition('n', 0, 1, 0);
        house.addCondition('n', 3, 2, 0);
        house.addCondition('n', 2, 3, 0);
        dueQuarrel("the first one lowest, then the second", house, 1, 4);
        house.drop(1, true);
        dueQuarrel("the next lowest", house, 2, 3);

        Placecard row = House.seated('h', 0, 1, 2, 3, 4);
        row.addCondition('b', 0, 1, 0);
        row.addCondition('b', 1, 2, 0);
        row.addCondition('b', 2, 3, 0);
        row.addCondition('b', 3, 4, 0);
        row.addCondition('b', 4, 0, 0);
        dueQuarrel("a ring at a row", row, 0, 1, 2, 3, 4);
        row.addCondition('b', 1, 3, 0);
        dueQuarrel("a smaller ring", row, 0, 1, 5);
    }

    private static void moves() {
        Placecard house = House.seated('h', 0, 1, 2, 3);
        check.due("moves(0) without conditions", house.moves(0), 0);
        house.addCondition('b', 0, 3, 0);
        check.due("moves(0), two change", house.moves(0), 2);
        house.addCondition('b', 0, 2, 5);
        check.due("moves(0), soft ones aside", house.moves(0), 2);
        house.addCondition('n', 0, 1, 0);
        check.due("moves(0), two others change", house.moves(0), 2);
        check.due("at(0, 3) stays", house.at(0, 3), 3);
        house.ink(1);
        check.due("moves(0), 1 in ink", house.moves(0), 3);
        house.ink(0);
        check.refused("moves(0), 0 and 1 in ink", Check.ELEMENT, () -> house.moves(0));

        Placecard seven = House.seated('h', 0, 1, 2, 3, 4, 5, 6);
        int[] path = {1, 0, 3, 2, 5, 6, 4};
        for (int i = 1; i < path.length; i++) {
            seven.addCondition('b', path[i - 1], path[i], 0);
        }
        check.due("moves(0), all of seven", seven.moves(0), 7);
        check.due("arrange(0), all of seven", seven.arrange(0), 7);
        check.due("moves(0), arranged", seven.moves(0), 0);

        Supplier<Placecard> held = () -> {
            Placecard row = House.seated('h', 0, 1, 2);
            row.addCondition('b', 0, 2, 0);
            row.ink(0);
            row.ink(2);
            return row;
        };
        check.refused("moves(0), all held by cards", Check.ELEMENT, held, x -> x.moves(0));
        Supplier<Placecard> elsewhere = () -> {
            Placecard two = House.withTables("h2 h2");
            House.invite(two, 3);
            two.sit(0, 0, 0);
            two.sit(1, 1, 0);
            two.addCondition('t', 0, 1, 0);
            return two;
        };
        check.refused("moves(0), one between tables is broken", Check.ELEMENT, elsewhere, x -> x.moves(0));
        Placecard dropped = elsewhere.get();
        dropped.drop(0, true);
        check.due("moves(1), it dropped", dropped.moves(1), 0);
    }

    /** Guests in a row, each of whom hears the one before by the right ear alone: only the falling order will do. */
    private static Placecard falling(int count) {
        Placecard house = House.withTables("h" + count);
        for (int i = 0; i < count; i++) {
            house.addGuest(1, 1, 0, 1, 'r');
            house.reply(i, true);
            house.sit(i, 0, i);
        }
        for (int i = 1; i < count; i++) {
            house.addCondition('e', i, i - 1, 0);
        }
        return house;
    }

    private static void onlyTheLastOrder() {
        Placecard seven = falling(7);
        check.due("bestBroken(0), the last order", seven.bestBroken(0), 0);
        check.due("bestAt(0, ..), the last order", bestRow(seven, 0, 7), "6 5 4 3 2 1 0");
        check.due("answers(0), the last order", seven.answers(0), 1);
        check.due("moves(0), the last order", seven.moves(0), 6);
        check.due("arrange(0), the last order", seven.arrange(0), 6);
        Placecard six = falling(6);
        dueQuarrel("only the last order keeps all", six);
        six.addCondition('n', 0, 1, 0);
        dueQuarrel("not even the last order", six, 0, 5);
        six.drop(0, true);
        dueQuarrel("the last order and others", six);
    }

    private static void crowded() {
        Supplier<Placecard> eight = () -> House.seated('r', 0, 1, 2, 3, 4, 5, 6, 7);
        check.refused("bestBroken of eight", Check.UNSUPPORTED, eight, x -> x.bestBroken(0));
        check.refused("bestLoss of eight", Check.UNSUPPORTED, eight, x -> x.bestLoss(0));
        check.refused("arrange of eight", Check.UNSUPPORTED, eight, x -> x.arrange(0));
        check.refused("answers of eight", Check.UNSUPPORTED, eight, x -> x.answers(0));
        check.refused("moves of eight", Check.UNSUPPORTED, eight, x -> x.moves(0));
        check.refused("isNeeded(0, 0) of eight, no condition", Check.BOUNDS, eight, x -> x.isNeeded(0, 0));
        Supplier<Placecard> eightWithOne = () -> {
            Placecard house = eight.get();
            house.addCondition('d', 0, 1, 0);
            return house;
        };
        check.refused("isNeeded(0, 0) of eight", Check.UNSUPPORTED, eightWithOne, x -> x.isNeeded(0, 0));
        check.refused("moves of eight, none kept", Check.UNSUPPORTED, eightWithOne, x -> x.moves(0));

        Supplier<Placecard> seven = () -> House.seated('r', 0, 1, 2, 3, 4, 5, 6);
        check.refused("quarrel of seven", Check.UNSUPPORTED, seven, x -> x.quarrel(0));
        check.refused("quarrelAt of seven", Check.UNSUPPORTED, seven, x -> x.quarrelAt(0, 0));
        check.refused("quarrelAt(0, -1) of seven", Check.UNSUPPORTED, seven, x -> x.quarrelAt(0, -1));
        Placecard house = seven.get();
        check.due("bestBroken of seven", house.bestBroken(0), 0);
        check.due("bestLoss of seven", house.bestLoss(0), 0);
        check.due("bestAt of seven", house.bestAt(0, 6), 6);
        check.due("arrange of seven", house.arrange(0), 0);
        check.due("moves of seven", house.moves(0), 0);
        house.rise(3);
        check.due("quarrel of six", house.quarrel(0), 0);
        check.refused("quarrelAt of six", Check.ELEMENT, () -> house.quarrelAt(0, 0));
    }

    private static void noSuchTable() {
        for (int table : new int[] {-1, 3, Integer.MIN_VALUE, Integer.MAX_VALUE}) {
            check.refused("bestBroken(" + table + ")", Check.BOUNDS, House::full, x -> x.bestBroken(table));
            check.refused("bestLoss(" + table + ")", Check.BOUNDS, House::full, x -> x.bestLoss(table));
            check.refused("arrange(" + table + ")", Check.BOUNDS, House::full, x -> x.arrange(table));
            check.refused("answers(" + table + ")", Check.BOUNDS, House::full, x -> x.answers(table));
            check.refused("quarrel(" + table + ")", Check.BOUNDS, House::full, x -> x.quarrel(table));
            check.refused("quarrelAt(" + table + ", 9)", Check.BOUNDS, House::full, x -> x.quarrelAt(table, 9));
            check.refused("moves(" + table + ")", Check.BOUNDS, House::full, x -> x.moves(table));
        }
    }

    private static void emptyTable() {
        Placecard house = House.withTables("l4 h3");
        House.invite(house, 3);
        for (int i = 0; i < 3; i++) {
            house.sit(i, 1, i);
        }
        house.addCondition('d', 0, 2, 0);
        house.addCondition('b', 0, 2, 7);
        check.due("bestBroken(0), empty", house.bestBroken(0), 1);
        check.due("bestLoss(0), empty", house.bestLoss(0), 7);
        check.due("arrange(0), empty", house.arrange(0), 0);
        check.due("answers(0), empty", house.answers(0), 1);
        check.due("isNeeded(0, 0), empty", house.isNeeded(0, 0), false);
        check.due("quarrel(0), empty", house.quarrel(0), 0);
        check.refused("moves(0), empty, but one broken elsewhere", Check.ELEMENT, () -> house.moves(0));
    }
}
