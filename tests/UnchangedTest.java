import java.util.function.Consumer;
import java.util.function.Supplier;

/** "A method that throws an exception changes nothing": each reason of each call, in houses where all can be changed. */
public final class UnchangedTest {
    private static final Check check = new Check("UnchangedTest");

    public static void main(String[] args) {
        for (int i = 0; i < 2; i++) {
            boolean isLocked = i == 0;
            tablesAndGuests(() -> brim(isLocked));
            seats(() -> brim(isLocked));
            conditions(() -> brim(isLocked));
            orders(() -> brim(isLocked));
            booksAndEvenings(() -> brim(isLocked));
            crowded(() -> crowd(isLocked));
            nobodyComes(isLocked);
        }
        check.end();
    }

    private static void refused(String call, Class<?> thrown, Supplier<Placecard> build, Consumer<Placecard> run) {
        check.refused(call, thrown, build, run);
    }

    /** Twelve who come, two who wait, one no, one invited; locked, if at all, when the first four had come. */
    private static void invite(Placecard house, boolean isLocked) {
        for (int i = 0; i < 16; i++) {
            house.addGuest(7 * i % 5, 11 * i % 7, i % 5, 1 + i, "blr".charAt(i % 3));
            if (i < 15) {
                house.reply(i, i != 14);
            }
            if (i == 3 && isLocked) {
                house.lock();
            }
        }
    }

    /** Six tables, sixteen guests, sixteen conditions, twenty evenings; the guests 10 and 11 stand, the table 5 is free. */
    private static Placecard brim(boolean isLocked) {
        Placecard house = House.withTables("r2 h2 l2 r2 h2 l2");
        invite(house, isLocked);
        for (int i = 0; i < 10; i++) {
            house.sit(i, i / 2, i % 2);
        }
        house.ink(4);
        house.addCondition('o', 2, 3, 0);
        house.addCondition('d', 0, 1, 0);
        house.addCondition('t', 0, 2, 0);
        for (int i = 3; i < 16; i++) {
            house.addCondition("bnatdose".charAt(i % 8), i % 10, (i + 1) % 10, i % 4);
        }
        house.drop(0, true);
        house.drop(15, true);
        for (int i = 0; i < 20; i++) {
            house.keepEvening();
        }
        return house;
    }

    /** Eight at a table for eight, two at one for two, and a free one. */
    private static Placecard crowd(boolean isLocked) {
        Placecard house = House.withTables("r8 h2 r2");
        invite(house, isLocked);
        for (int i = 0; i < 10; i++) {
            house.sit(i, i / 8, i % 8);
        }
        house.ink(4);
        house.addCondition('d', 0, 1, 0);
        house.addCondition('n', 4, 5, 3);
        house.drop(1, true);
        house.keepEvening();
        return house;
    }

    private static void tablesAndGuests(Supplier<Placecard> brim) {
        refused("2: addTable('x', 2)", Check.ARGUMENT, brim, x -> x.addTable('x', 2));
        refused("2: addTable('r', 1)", Check.ARGUMENT, brim, x -> x.addTable('r', 1));
        refused("2: addTable('h', 11)", Check.ARGUMENT, brim, x -> x.addTable('h', 11));
        refused("2: addTable('l', 3)", Check.ARGUMENT, brim, x -> x.addTable('l', 3));
        refused("2: addTable('r', 2)", Check.STATE, brim, x -> x.addTable('r', 2));
        refused("3: way(6, 0, 1)", Check.BOUNDS, brim, x -> x.way(6, 0, 1));
        refused("3: way(0, 2, 0)", Check.ELEMENT, brim, x -> x.way(0, 2, 0));
        refused("3: way(0, 0, 2)", Check.ELEMENT, brim, x -> x.way(0, 0, 2));
        refused("4: addGuest(100, 1, 1, 1, 'b')", Check.ARGUMENT, brim, x -> x.addGuest(100, 1, 1, 1, 'b'));
        refused("4: addGuest(1, 121, 1, 1, 'b')", Check.ARGUMENT, brim, x -> x.addGuest(1, 121, 1, 1, 'b'));
        refused("4: addGuest(1, 1, 5, 1, 'b')", Check.ARGUMENT, brim, x -> x.addGuest(1, 1, 5, 1, 'b'));
        refused("4: addGuest(1, 1, 1, 0, 'b')", Check.ARGUMENT, brim, x -> x.addGuest(1, 1, 1, 0, 'b'));
        refused("4: addGuest(1, 1, 1, 1, 'x')", Check.ARGUMENT, brim, x -> x.addGuest(1, 1, 1, 1, 'x'));
        refused("4: addGuest(1, 1, 1, 1, 'b')", Check.STATE, brim, x -> x.addGuest(1, 1, 1, 1, 'b'));
        refused("5: reply(16, true)", Check.BOUNDS, brim, x -> x.reply(16, true));
        refused("5: reply(-1, false)", Check.BOUNDS, brim, x -> x.reply(-1, false));
        refused("6: stateOf(16)", Check.BOUNDS, brim, x -> x.stateOf(16));
        refused("8: waiting(2)", Check.ELEMENT, brim, x -> x.waiting(2));
        refused("8: waiting(-1)", Check.ELEMENT, brim, x -> x.waiting(-1));
    }

    private static void seats(Supplier<Placecard> brim) {
        refused("9: sit(16, 5, 0)", Check.BOUNDS, brim, x -> x.sit(16, 5, 0));
        refused("9: sit(0, 6, 0)", Check.BOUNDS, brim, x -> x.sit(0, 6, 0));
        refused("9: sit(0, 5, 2)", Check.ELEMENT, brim, x -> x.sit(0, 5, 2));
        refused("9: sit(15, 5, 0), invited", Check.UNSUPPORTED, brim, x -> x.sit(15, 5, 0));
        refused("9: sit(14, 5, 0), a no", Check.UNSUPPORTED, brim, x -> x.sit(14, 5, 0));
        refused("9: sit(12, 5, 0), waiting", Check.UNSUPPORTED, brim, x -> x.sit(12, 5, 0));
        refused("9: sit(4, 5, 0), in ink", Check.UNSUPPORTED, brim, x -> x.sit(4, 5, 0));
        refused("9: sit(0, 1, 0), taken", Check.UNSUPPORTED, brim, x -> x.sit(0, 1, 0));
        refused("9: sit(0, 0, 0), the same seat", Check.UNSUPPORTED, brim, x -> x.sit(0, 0, 0));
        refused("10: rise(16)", Check.BOUNDS, brim, x -> x.rise(16));
        refused("10: rise(10), who stands", Check.UNSUPPORTED, brim, x -> x.rise(10));
        refused("10: rise(4), in ink", Check.UNSUPPORTED, brim, x -> x.rise(4));
        refused("11: seatOf(16)", Check.BOUNDS, brim, x -> x.seatOf(16));
        refused("11: seatOf(10), who stands", Check.ELEMENT, brim, x -> x.seatOf(10));
        refused("12: at(6, 0)", Check.BOUNDS, brim, x -> x.at(6, 0));
        refused("12: at(0, 2)", Check.ELEMENT, brim, x -> x.at(0, 2));
        refused("12: at(5, 0), free", Check.ELEMENT, brim, x -> x.at(5, 0));
        refused("13: swap(16, 0)", Check.BOUNDS, brim, x -> x.swap(16, 0));
        refused("13: swap(0, 16)", Check.BOUNDS, brim, x -> x.swap(0, 16));
        refused("13: swap(10, 0), who stands", Check.UNSUPPORTED, brim, x -> x.swap(10, 0));
        refused("13: swap(0, 10), who stands", Check.UNSUPPORTED, brim, x -> x.swap(0, 10));
        refused("13: swap(4, 0), in ink", Check.UNSUPPORTED, brim, x -> x.swap(4, 0));
        refused("13: swap(0, 4), in ink", Check.UNSUPPORTED, brim, x -> x.swap(0, 4));
        refused("13: swap(0, 0)", Check.UNSUPPORTED, brim, x -> x.swap(0, 0));
        refused("14: ink(16)", Check.BOUNDS, brim, x -> x.ink(16));
        refused("14: ink(10), who stands", Check.UNSUPPORTED, brim, x -> x.ink(10));
        refused("14: ink(4), which is", Check.UNSUPPORTED, brim, x -> x.ink(4));
        refused("15: tear(16)", Check.BOUNDS, brim, x -> x.tear(16));
        refused("15: tear(0), which is not", Check.UNSUPPORTED, brim, x -> x.tear(0));
        refused("15: tear(10), who stands", Check.UNSUPPORTED, brim, x -> x.tear(10));
    }

    private static void conditions(Supplier<Placecard> brim) {
        refused("16: addCondition('b', 16, 0, 0)", Check.BOUNDS, brim, x -> x.addCondition('b', 16, 0, 0));
        refused("16: addCondition('b', 0, 16, 0)", Check.BOUNDS, brim, x -> x.addCondition('b', 0, 16, 0));
        refused("16: addCondition('x', 0, 1, 0)", Check.ARGUMENT, brim, x -> x.addCondition('x', 0, 1, 0));
        refused("16: addCondition('b', 1, 1, 0)", Check.ARGUMENT, brim, x -> x.addCondition('b', 1, 1, 0));
        refused("16: addCondition('b', 0, 1, -1)", Check.ARGUMENT, brim, x -> x.addCondition('b', 0, 1, -1));
        refused("16: addCondition('b', 0, 1, 10)", Check.ARGUMENT, brim, x -> x.addCondition('b', 0, 1, 10));
        refused("16: addCondition('b', 0, 1, 0)", Check.STATE, brim, x -> x.addCondition('b', 0, 1, 0));
        refused("17: drop(16, true)", Check.BOUNDS, brim, x -> x.drop(16, true));
        refused("17: drop(-1, false)", Check.BOUNDS, brim, x -> x.drop(-1, false));
        refused("18: isBroken(16)", Check.BOUNDS, brim, x -> x.isBroken(16));
    }

    private static void orders(Supplier<Placecard> brim) {
        refused("21: bestBroken(6)", Check.BOUNDS, brim, x -> x.bestBroken(6));
        refused("22: bestLoss(6)", Check.BOUNDS, brim, x -> x.bestLoss(6));
        refused("23: bestAt(6, 0)", Check.BOUNDS, brim, x -> x.bestAt(6, 0));
        refused("23: bestAt(0, 2)", Check.ELEMENT, brim, x -> x.bestAt(0, 2));
        refused("23: bestAt(5, 0), free", Check.ELEMENT, brim, x -> x.bestAt(5, 0));
        refused("24: arrange(6)", Check.BOUNDS, brim, x -> x.arrange(6));
        refused("25: answers(6)", Check.BOUNDS, brim, x -> x.answers(6));
        refused("26: isNeeded(6, 0)", Check.BOUNDS, brim, x -> x.isNeeded(6, 0));
        refused("26: isNeeded(0, 16)", Check.BOUNDS, brim, x -> x.isNeeded(0, 16));
        refused("27: quarrel(6)", Check.BOUNDS, brim, x -> x.quarrel(6));
        refused("28: quarrelAt(6, 0)", Check.BOUNDS, brim, x -> x.quarrelAt(6, 0));
        refused("28: quarrelAt(0, 1), behind the last", Check.ELEMENT, brim, x -> x.quarrelAt(0, 1));
        refused("28: quarrelAt(5, 0), nobody there", Check.ELEMENT, brim, x -> x.quarrelAt(5, 0));
        refused("29: moves(6)", Check.BOUNDS, brim, x -> x.moves(6));
        refused("29: moves(0), none", Check.ELEMENT, brim, x -> x.moves(0));
        refused("29: moves(5), none", Check.ELEMENT, brim, x -> x.moves(5));
    }

    private static void booksAndEvenings(Supplier<Placecard> brim) {
        refused("30: faults(6, 0)", Check.BOUNDS, brim, x -> x.faults(6, 0));
        refused("30: faults(0, 3)", Check.ARGUMENT, brim, x -> x.faults(0, 3));
        refused("31: first(3, 0)", Check.ARGUMENT, brim, x -> x.first(3, 0));
        refused("31: first(0, 12)", Check.ELEMENT, brim, x -> x.first(0, 12));
        refused("32: dishes(5)", Check.ARGUMENT, brim, x -> x.dishes(5));
        refused("35: keepEvening()", Check.STATE, brim, Placecard::keepEvening);
        refused("36: met(16, 0)", Check.BOUNDS, brim, x -> x.met(16, 0));
        refused("36: met(0, 16)", Check.BOUNDS, brim, x -> x.met(0, 16));
        refused("36: met(1, 1)", Check.ARGUMENT, brim, x -> x.met(1, 1));
        refused("40: meanRank(6)", Check.BOUNDS, brim, x -> x.meanRank(6));
        refused("40: meanRank(5), nobody there", Check.ARITHMETIC, brim, x -> x.meanRank(5));
    }

    private static void crowded(Supplier<Placecard> crowd) {
        refused("21: bestBroken(0) of eight", Check.UNSUPPORTED, crowd, x -> x.bestBroken(0));
        refused("22: bestLoss(0) of eight", Check.UNSUPPORTED, crowd, x -> x.bestLoss(0));
        refused("23: bestAt(0, 0) of eight", Check.UNSUPPORTED, crowd, x -> x.bestAt(0, 0));
        refused("24: arrange(0) of eight", Check.UNSUPPORTED, crowd, x -> x.arrange(0));
        refused("25: answers(0) of eight", Check.UNSUPPORTED, crowd, x -> x.answers(0));
        refused("26: isNeeded(0, 0) of eight", Check.UNSUPPORTED, crowd, x -> x.isNeeded(0, 0));
        refused("27: quarrel(0) of eight", Check.UNSUPPORTED, crowd, x -> x.quarrel(0));
        refused("28: quarrelAt(0, 0) of eight", Check.UNSUPPORTED, crowd, x -> x.quarrelAt(0, 0));
        refused("29: moves(0) of eight", Check.UNSUPPORTED, crowd, x -> x.moves(0));
        refused("2: addTable('x', 4)", Check.ARGUMENT, crowd, x -> x.addTable('x', 4));
        refused("2: addTable('l', 5)", Check.ARGUMENT, crowd, x -> x.addTable('l', 5));
        refused("16: addCondition('x', 0, 1, 0)", Check.ARGUMENT, crowd, x -> x.addCondition('x', 0, 1, 0));
        refused("16: addCondition('b', 0, 1, 10)", Check.ARGUMENT, crowd, x -> x.addCondition('b', 0, 1, 10));
    }

    private static void nobodyComes(boolean isLocked) {
        refused("39: seatedShare(), sixteen wait", Check.ARITHMETIC, () -> {
            Placecard house = new Placecard();
            House.invite(house, 16);
            house.addCondition('d', 0, 1, 0);
            house.drop(0, true);
            if (isLocked) {
                house.lock();
            }
            return house;
        }, Placecard::seatedShare);
        refused("39: seatedShare(), all said no", Check.ARITHMETIC, () -> {
            Placecard house = crowd(isLocked);
            for (int i = 0; i < 16; i++) {
                house.reply(i, false);
            }
            return house;
        }, Placecard::seatedShare);
    }
}
