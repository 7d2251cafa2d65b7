import java.util.function.Supplier;

/** Promises 30 to 37: books of rank, dishes and evenings. */
public final class BooksDishesEveningsTest {
    private static final Check check = new Check("BooksDishesEveningsTest");

    public static void main(String[] args) {
        faults();
        faultsRefused();
        first();
        firstRefused();
        dishes();
        lockAndWithout();
        lockOfNone();
        evenings();
        eveningsRefused();
        unmet();
        check.end();
    }

    /** Six who come of six seats, the last one waits; ranks 5 9 5 1 9 5 7, ages 30 30 80 30 2 80 99. */
    private static Placecard ranked() {
        Placecard house = House.withTables("h4 r2");
        int[] ranks = {5, 9, 5, 1, 9, 5, 7};
        int[] ages = {30, 30, 80, 30, 2, 80, 99};
        for (int i = 0; i < ranks.length; i++) {
            house.addGuest(ranks[i], ages[i], i % 3, 1, 'b');
            house.reply(i, true);
        }
        return house;
    }

    private static void faults() {
        Placecard house = ranked();
        house.sit(0, 0, 0);
        house.sit(1, 0, 1);
        house.sit(2, 0, 2);
        house.sit(3, 0, 3);
        check.due("faults(0, 0)", house.faults(0, 0), 1);
        check.due("faults(0, 1)", house.faults(0, 1), 2);
        check.due("faults(0, 2)", house.faults(0, 2), 0);
        house.swap(0, 2);
        check.due("faults(0, 0), of like ranks the lower number", house.faults(0, 0), 2);
        check.due("faults(0, 1), of like ages the lower number", house.faults(0, 1), 1);
        check.due("faults(0, 2), by numbers", house.faults(0, 2), 3);
        house.rise(1);
        check.due("faults(0, 0), a free seat between", house.faults(0, 0), 1);
        check.due("faults(1, 0), of nobody", house.faults(1, 0), 0);
        house.sit(5, 1, 0);
        house.sit(4, 1, 1);
        check.due("faults(1, 0)", house.faults(1, 0), 1);
        check.due("faults(1, 1)", house.faults(1, 1), 0);
        check.due("faults(1, 2)", house.faults(1, 2), 1);
        check.due("faults of ten", House.seated('r', 9, 8, 7, 6, 5, 4, 3, 2, 1, 0).faults(0, 1), 45);
    }

    private static void faultsRefused() {
        check.refused("faults(-1, 0)", Check.BOUNDS, House::full, x -> x.faults(-1, 0));
        check.refused("faults(3, 0)", Check.BOUNDS, House::full, x -> x.faults(3, 0));
        check.refused("faults(3, 3)", Check.BOUNDS, House::full, x -> x.faults(3, 3));
        check.refused("faults(0, 3)", Check.ARGUMENT, House::full, x -> x.faults(0, 3));
        check.refused("faults(0, -1)", Check.ARGUMENT, House::full, x -> x.faults(0, -1));
    }

    private static void dueBook(Placecard house, int book, int... want) {
        for (int i = 0; i < want.length; i++) {
            check.due("first(" + book + ", " + i + ")", house.first(book, i), want[i]);
        }
        check.refused("first(" + book + ", " + want.length + ")", Check.ELEMENT, () -> house.first(book, want.length));
    }

    private static void first() {
        Placecard house = ranked();
        dueBook(house, 0, 1, 4, 0, 2, 5, 3);
        dueBook(house, 1, 2, 5, 0, 1, 3, 4);
        dueBook(house, 2, 0, 1, 2, 3, 4, 5);
        house.reply(1, false);
        dueBook(house, 0, 4, 6, 0, 2, 5, 3);
        dueBook(house, 1, 6, 2, 5, 0, 3, 4);
        dueBook(house, 2, 0, 2, 3, 4, 5, 6);
    }

    private static void firstRefused() {
        check.refused("first(-1, 0)", Check.ARGUMENT, House::full, x -> x.first(-1, 0));
        check.refused("first(3, 0)", Check.ARGUMENT, House::full, x -> x.first(3, 0));
        check.refused("first(3, 99)", Check.ARGUMENT, House::full, x -> x.first(3, 99));
        check.refused("first(3, -1)", Check.ARGUMENT, House::full, x -> x.first(3, -1));
        check.refused("first(0, -1)", Check.ELEMENT, House::full, x -> x.first(0, -1));
        check.refused("first(2, 11)", Check.ELEMENT, House::full, x -> x.first(2, 11));
        check.refused("first(0, 0) of a new house", Check.ELEMENT, Placecard::new, x -> x.first(0, 0));
    }

    private static void dishes() {
        Placecard house = ranked();
        check.due("dishes(0), who waits aside", house.dishes(0), 2);
        check.due("dishes(1)", house.dishes(1), 2);
        check.due("dishes(2)", house.dishes(2), 2);
        check.due("dishes(3)", house.dishes(3), 0);
        check.due("dishes(4)", house.dishes(4), 0);
        house.reply(1, false);
        check.due("dishes(0), who waited comes", house.dishes(0), 3);
        check.due("dishes(1), one less", house.dishes(1), 1);
        check.refused("dishes(-1)", Check.ARGUMENT, House::full, x -> x.dishes(-1));
        check.refused("dishes(5)", Check.ARGUMENT, House::full, x -> x.dishes(5));
    }

    private static void lockAndWithout() {
        Placecard house = ranked();
        check.due("without(), nothing locked", house.without(), 0);
        check.due("lock()", house.lock(), 6);
        check.due("without(), just locked", house.without(), 0);
        house.reply(1, false);
        check.due("without(), one in excess of 0", house.without(), 1);
        house.reply(2, false);
        house.reply(1, true);
        check.due("without(), 2 free does not help", house.without(), 1);
        house.reply(0, false);
        check.due("without(), none in excess", house.without(), 0);
        check.due("lock() anew", house.lock(), 5);
        house.reply(0, true);
        check.due("without(), anew", house.without(), 1);
        house.addTable('r', 4);
        house.addGuest(1, 1, 4, 1, 'b');
        house.reply(7, true);
        house.reply(2, true);
        check.due("without(), a dish that was not there", house.without(), 3);
        check.due("lock() a third time", house.lock(), 8);
        check.due("without() a third time", house.without(), 0);
    }

    private static void lockOfNone() {
        Placecard house = House.withTables("r3");
        check.due("lock() of none", house.lock(), 0);
        House.invite(house, 2);
        check.due("without(), the counts of none kept", house.without(), 2);
    }

    private static void evenings() {
        Placecard house = House.withTables("r3 h2");
        House.invite(house, 5);
        house.sit(0, 0, 0);
        house.sit(1, 0, 2);
        house.sit(2, 1, 0);
        check.due("met(0, 1) before", house.met(0, 1), 0);
        check.due("keepEvening()", house.keepEvening(), 1);
        check.due("met(0, 1)", house.met(0, 1), 1);
        check.due("met(1, 0)", house.met(1, 0), 1);
        check.due("met(0, 2), at unlike tables", house.met(0, 2), 0);
        check.due("met(3, 4), who both stand", house.met(3, 4), 0);
        house.swap(1, 2);
        house.sit(3, 0, 1);
        check.due("met(0, 2), not kept yet", house.met(0, 2), 0);
        check.due("keepEvening() again", house.keepEvening(), 2);
        check.due("met(0, 1), not again", house.met(0, 1), 1);
        check.due("met(2, 0)", house.met(2, 0), 1);
        check.due("met(3, 2)", house.met(3, 2), 1);
        check.due("keepEvening() a third time", house.keepEvening(), 3);
        check.due("met(3, 2), twice", house.met(3, 2), 2);
        house.reply(3, false);
        check.due("met(2, 3), after a no", house.met(2, 3), 2);
        check.due("addGuest, later", house.addGuest(1, 1, 1, 1, 'b'), 5);
        check.due("met(5, 0), later", house.met(5, 0), 0);
        for (int i = 4; i <= 20; i++) {
            check.due("keepEvening() number " + i, house.keepEvening(), i);
        }
        check.due("met(0, 2), all the evenings", house.met(0, 2), 19);
    }

    private static void eveningsRefused() {
        Supplier<Placecard> twenty = () -> {
            Placecard house = House.seated('r', 0, 1, 2);
            for (int i = 0; i < 20; i++) {
                house.keepEvening();
            }
            return house;
        };
        check.refused("a 21st evening", Check.STATE, twenty, Placecard::keepEvening);
        check.due("met(0, 1) of twenty", twenty.get().met(0, 1), 20);
        check.refused("met(-1, 0)", Check.BOUNDS, House::full, x -> x.met(-1, 0));
        check.refused("met(0, 15)", Check.BOUNDS, House::full, x -> x.met(0, 15));
        check.refused("met(15, 15)", Check.BOUNDS, House::full, x -> x.met(15, 15));
        check.refused("met(3, 3)", Check.ARGUMENT, House::full, x -> x.met(3, 3));
    }

    private static void unmet() {
        Placecard house = House.withTables("r3 h2");
        check.due("unmet() of none", house.unmet(), 0);
        House.invite(house, 6);
        check.due("unmet() of five who come", house.unmet(), 10);
        for (int i = 0; i < 3; i++) {
            house.sit(i, 0, i);
        }
        check.due("unmet(), not kept yet", house.unmet(), 10);
        house.keepEvening();
        check.due("unmet(), three met", house.unmet(), 7);
        house.keepEvening();
        check.due("unmet(), they met again", house.unmet(), 7);
        house.reply(0, false);
        check.due("unmet(), the sixth for the first", house.unmet(), 9);
        house.reply(5, false);
        check.due("unmet() of four", house.unmet(), 5);
    }
}
