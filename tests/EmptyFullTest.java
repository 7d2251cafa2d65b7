import java.util.function.Supplier;

/** What is answered where nothing is there and where all is full, of promises 1 and 5 to 41, and over 512 calls. */
public final class EmptyFullTest {
    private static final Check check = new Check("EmptyFullTest");

    public static void main(String[] args) {
        newHouse();
        newHouseBesideAnother();
        comingFromNoneToSixteen();
        waitingFromNoneToSixteen();
        sittersFromOneToTen();
        riseGivesTheTable();
        seatOfFirstAndLast();
        swapOfTheLoss();
        arrangedFromNoneToSeven();
        faultsFromNoneToAll();
        honourFallsFromSeat0();
        likeRanks();
        likeAges();
        numbersAlone();
        firstOfThoseWhoCome();
        dishesFromNoneToSixteen();
        lockOfNobody();
        nothingWasLocked();
        lockedAnew();
        inExcessByDishes();
        eveningsFromNoneToTwenty();
        metFromNoneToTwenty();
        unmetFromNoneToAll();
        checksumOfNobody();
        checksumBeyondALong();
        shareFromNoneToAll();
        meanFromLeastToGreatest();
        soundAllTheWay();
        lastOfAllCalls();
        check.end();
    }

    // ---- promise 1

    private static void newHouse() {
        check.due("1: coming()", new Placecard().coming(), 0);
        check.due("1: broken()", new Placecard().broken(), 0);
        check.due("1: loss()", new Placecard().loss(), 0);
        check.due("1: lock()", new Placecard().lock(), 0);
        check.due("1: without()", new Placecard().without(), 0);
        check.due("1: keepEvening()", new Placecard().keepEvening(), 1);
        check.due("1: unmet()", new Placecard().unmet(), 0);
        check.due("1: checksum()", new Placecard().checksum(), 6727L);
        check.due("1: isSound()", new Placecard().isSound(), true);
        for (int dish = 0; dish < 5; dish++) {
            check.due("1: dishes(" + dish + ")", new Placecard().dishes(dish), 0);
        }
        check.due("1: addTable('r', 2)", new Placecard().addTable('r', 2), 0);
        check.due("1: addGuest(0, 0, 0, 1, 'b')", new Placecard().addGuest(0, 0, 0, 1, 'b'), 0);
        check.refused("1: seatedShare()", Check.ARITHMETIC, Placecard::new, Placecard::seatedShare);
        check.refused("1: addCondition('b', 0, 1, 0)", Check.BOUNDS, Placecard::new, x -> x.addCondition('b', 0, 1, 0));
    }

    private static void newHouseBesideAnother() {
        for (int part = 0; part < Probe.PARTS; part++) {
            String first = Probe.part(part, new Placecard());
            Placecard other = House.full();
            check.due("1: a new house beside another", Probe.part(part, new Placecard()), first);
            check.due("1: the other one", Probe.part(part, other), Probe.part(part, House.full()));
        }
    }

    // ---- promises 5 to 15

    private static Placecard sixteenSeats() {
        return House.withTables("r10 h2 l4");
    }

    private static void comingFromNoneToSixteen() {
        Placecard house = sixteenSeats();
        for (int i = 0; i < 16; i++) {
            house.addGuest(1, 1, 0, 1, 'b');
            check.due("7: invited alone", house.coming(), i);
            house.reply(i, true);
            check.due("7: come", house.coming(), i + 1);
        }
        for (int i = 0; i < 16; i++) {
            house.reply(i, false);
            check.due("7: said no", house.coming(), 15 - i);
            check.due("6: said no", house.stateOf(i), 'n');
        }
    }

    private static void waitingFromNoneToSixteen() {
        Placecard house = new Placecard();
        check.refused("8: none waits", Check.ELEMENT, () -> house.waiting(0));
        for (int i = 0; i < 16; i++) {
            house.addGuest(1, 1, 0, 1, 'b');
        }
        for (int i = 15; i >= 0; i--) {
            house.reply(i, true);
            check.due("8: the one who waits longest", house.waiting(0), 15);
            check.due("8: the last one", house.waiting(15 - i), i);
        }
        check.refused("8: behind the last", Check.ELEMENT, () -> house.waiting(16));
        for (int i = 15; i >= 0; i--) {
            check.due("8: the one who waits longest then", house.waiting(0), i);
            house.reply(i, false);
        }
        check.refused("8: none waits any more", Check.ELEMENT, () -> house.waiting(0));
    }

    private static void sittersFromOneToTen() {
        Placecard house = House.withTables("h10 r2");
        House.invite(house, 12);
        for (int i = 0; i < 10; i++) {
            check.due("9: how many sit at that table", house.sit(i, 0, i), i + 1);
        }
        check.due("9: how many sit at the other table", house.sit(10, 1, 1), 1);
        check.due("9: how many sit at the other table", house.sit(0, 1, 0), 2);
        check.due("9: how many sit at the table left", house.sit(11, 0, 0), 10);
    }

    private static void riseGivesTheTable() {
        Placecard house = House.withTables("r2 r2 r2 r2 r2 r2");
        House.invite(house, 6);
        for (int i = 0; i < 6; i++) {
            house.sit(i, i, 1);
        }
        for (int i = 5; i >= 0; i--) {
            check.due("10: the table", house.rise(i), i);
        }
        check.due("10: who rose comes still", house.coming(), 6);
    }

    private static void seatOfFirstAndLast() {
        Placecard house = House.withTables("r10 r2 r2 r2 r2 l10");
        House.invite(house, 1);
        int[][] places = {{0, 0}, {0, 9}, {5, 0}, {5, 9}, {1, 1}, {4, 0}};
        for (int[] place : places) {
            house.sit(0, place[0], place[1]);
            check.due("11: 100 times the table, and the seat", house.seatOf(0), 100 * place[0] + place[1]);
            check.due("12: who sits there", house.at(place[0], place[1]), 0);
        }
        house.rise(0);
        check.refused("11: does not sit", Check.ELEMENT, () -> house.seatOf(0));
        check.refused("12: nobody sits there", Check.ELEMENT, () -> house.at(4, 0));
    }

    private static void swapOfTheLoss() {
        Placecard house = House.seated('h', 0, 1, 2);
        house.addCondition('b', 0, 2, 1);
        house.addCondition('b', 0, 1, 0);
        check.due("13: less by 1", house.swap(1, 2), true);
        check.due("13: more by 1", house.swap(1, 2), false);
        check.due("13: as much as before", house.swap(0, 2), false);
        Placecard tables = House.withTables("h2 h2");
        House.invite(tables, 3);
        tables.sit(0, 0, 0);
        tables.sit(1, 0, 1);
        tables.sit(2, 1, 0);
        tables.addCondition('t', 0, 2, 9);
        check.due("13: less, at unlike tables", tables.swap(1, 2), true);
        check.due("13: changed seats", tables.seatOf(1), 100);
        check.due("13: changed seats", tables.seatOf(2), 1);
    }

    private static void arrangedFromNoneToSeven() {
        Placecard none = House.withTables("r2");
        check.due("24: nobody moved, nobody there", none.arrange(0), 0);
        check.due("21: nobody there", none.bestBroken(0), 0);
        check.due("22: nobody there", none.bestLoss(0), 0);
        check.refused("23: nobody there", Check.ELEMENT, () -> none.bestAt(0, 0));
        check.due("24: nobody moved, in order", House.seated('h', 0, 1, 2).arrange(0), 0);
        check.due("24: nobody moved, one alone", House.seated('h', -1, 0).arrange(0), 0);
        check.due("24: two moved", House.seated('h', 1, 0, 2).arrange(0), 2);
        check.due("24: seven moved", House.seated('h', 6, 0, 1, 2, 3, 4, 5).arrange(0), 7);
        check.due("24: six of seven moved", House.seated('h', 6, 5, 4, 3, 2, 1, 0).arrange(0), 6);
    }

    // ---- promises 30 to 34

    private static void faultsFromNoneToAll() {
        for (int book = 0; book < 3; book++) {
            check.due("30: nobody", House.withTables("r2").faults(0, book), 0);
            check.due("30: one alone", House.seated('r', -1, 0).faults(0, book), 0);
            check.due("30: none", House.seated('r', 0, 1, 2).faults(0, book), 0);
            check.due("30: one", House.seated('h', 1, -1, 0).faults(0, book), 1);
            check.due("30: all of ten", House.seated('l', 9, 8, 7, 6, 5, 4, 3, 2, 1, 0).faults(0, book), 45);
        }
    }

    /** Two guests who come, of these ranks and ages. */
    private static Placecard two(int rank, int age, int otherRank, int otherAge) {
        Placecard house = House.withTables("r5");
        house.addGuest(rank, age, 0, 1, 'b');
        house.addGuest(otherRank, otherAge, 0, 1, 'b');
        house.reply(0, true);
        house.reply(1, true);
        return house;
    }

    private static void honourFallsFromSeat0() {
        Placecard house = two(99, 0, 98, 0);
        house.sit(0, 0, 0);
        house.sit(1, 0, 4);
        check.due("Ranks: the greater one first, on the seat 0", house.faults(0, 0), 0);
        house.swap(0, 1);
        check.due("Ranks: the greater one first, on the last seat", house.faults(0, 0), 1);
    }

    private static void likeRanks() {
        for (int rank : new int[] {0, 50, 99}) {
            Placecard house = two(rank, 0, rank, 120);
            house.sit(0, 0, 3);
            house.sit(1, 0, 2);
            check.due("Ranks: of like ranks the lower number", house.faults(0, 0), 1);
            check.due("Ranks: of like ranks the lower number", house.first(0, 0), 0);
            check.due("Ranks: of like ranks the lower number", house.first(0, 1), 1);
        }
        check.due("Ranks: greater by 1", two(0, 9, 1, 0).first(0, 0), 1);
        check.due("Ranks: the greatest", two(98, 9, 99, 0).first(0, 0), 1);
    }

    private static void likeAges() {
        for (int age : new int[] {0, 60, 120}) {
            Placecard house = two(0, age, 99, age);
            house.sit(0, 0, 1);
            house.sit(1, 0, 0);
            check.due("Ranks: of like ages the lower number", house.faults(0, 1), 1);
            check.due("Ranks: of like ages the lower number", house.first(1, 0), 0);
            check.due("Ranks: of like ages the lower number", house.first(1, 1), 1);
        }
        check.due("Ranks: older by 1", two(9, 0, 0, 1).first(1, 0), 1);
        check.due("Ranks: the oldest", two(9, 119, 0, 120).first(1, 0), 1);
    }

    private static void numbersAlone() {
        Placecard house = two(0, 0, 99, 120);
        check.due("Ranks: 2 by numbers, the lower one first", house.first(2, 0), 0);
        check.due("Ranks: 2 by numbers, the lower one first", house.first(2, 1), 1);
        house.sit(0, 0, 1);
        house.sit(1, 0, 0);
        check.due("Ranks: 2 by numbers", house.faults(0, 2), 1);
        check.due("Ranks: 0 by rank", house.faults(0, 0), 0);
        check.due("Ranks: 1 by age", house.faults(0, 1), 0);
    }

    private static void firstOfThoseWhoCome() {
        Placecard house = House.withTables("r2");
        for (int i = 0; i < 5; i++) {
            house.addGuest(10 * i, 10 * i, 0, 1, 'b');
        }
        for (int book = 0; book < 3; book++) {
            int now = book;
            check.refused("31: none comes", Check.ELEMENT, () -> house.first(now, 0));
        }
        for (int guest : new int[] {1, 2, 3}) {
            house.reply(guest, true);
        }
        check.due("31: who comes, not who waits or is invited", house.first(0, 0), 2);
        check.due("31: who comes, not who waits or is invited", house.first(1, 1), 1);
        check.due("31: who comes, not who is invited", house.first(2, 0), 1);
        check.refused("31: behind the last who comes", Check.ELEMENT, () -> house.first(0, 2));
        house.reply(2, false);
        check.due("31: who waited", house.first(0, 0), 3);
    }

    private static void dishesFromNoneToSixteen() {
        Placecard house = sixteenSeats();
        for (int i = 0; i < 16; i++) {
            house.addGuest(1, 1, 4, 1, 'b');
            check.due("32: invited", house.dishes(4), i);
            house.reply(i, true);
            check.due("32: comes", house.dishes(4), i + 1);
            check.due("32: another dish", house.dishes(3), 0);
        }
        house.reply(15, false);
        check.due("32: said no", house.dishes(4), 15);
    }

    private static void lockOfNobody() {
        Placecard house = House.withTables("r2");
        check.due("33: nobody comes", house.lock(), 0);
        check.due("34: nobody comes", house.without(), 0);
        House.invite(house, 1);
        check.due("34: one in excess of 0", house.without(), 1);
    }

    private static void nothingWasLocked() {
        Placecard house = sixteenSeats();
        House.invite(house, 16);
        check.due("34: 0 if nothing was locked", house.without(), 0);
        house.reply(0, false);
        house.reply(0, true);
        check.due("34: 0 if nothing was locked", house.without(), 0);
    }

    private static void lockedAnew() {
        Placecard house = sixteenSeats();
        House.invite(house, 3);
        check.due("33: three", house.lock(), 3);
        House.invite(house, 13);
        check.due("34: thirteen go without", house.without(), 13);
        check.due("33: anew, sixteen", house.lock(), 16);
        check.due("34: none goes without", house.without(), 0);
        for (int i = 0; i < 15; i++) {
            house.reply(i, false);
        }
        check.due("34: fewer than are locked", house.without(), 0);
        check.due("33: anew, one", house.lock(), 1);
        house.reply(0, true);
        check.due("34: one goes without", house.without(), 1);
    }

    private static void inExcessByDishes() {
        Placecard house = sixteenSeats();
        for (int i = 0; i < 16; i++) {
            house.addGuest(1, 1, i % 5, 1, 'b');
            house.reply(i, i < 10);
        }
        check.due("Dishes: two of each", house.lock(), 10);
        house.reply(0, false);
        check.due("Dishes: one less of a dish", house.without(), 0);
        house.reply(10, true);
        check.due("Dishes: as many as are locked", house.without(), 0);
        house.reply(15, true);
        check.due("Dishes: one in excess", house.without(), 1);
        house.reply(11, true);
        check.due("Dishes: one in excess for two dishes", house.without(), 2);
        house.reply(2, false);
        check.due("Dishes: less of a third one does not help", house.without(), 2);
    }

    // ---- promises 35 to 37

    private static Placecard evenings(int count) {
        Placecard house = House.seated('r', 0, 1, -1);
        for (int i = 0; i < count; i++) {
            house.keepEvening();
        }
        return house;
    }

    private static void eveningsFromNoneToTwenty() {
        Placecard house = evenings(0);
        for (int i = 1; i <= 20; i++) {
            check.due("35: how many are kept", house.keepEvening(), i);
        }
        check.refused("35: there are 20", Check.STATE, () -> evenings(20), Placecard::keepEvening);
        check.due("35: the twentieth", evenings(19).keepEvening(), 20);
        Placecard nobody = new Placecard();
        for (int i = 1; i <= 20; i++) {
            check.due("35: nobody sits", nobody.keepEvening(), i);
        }
        check.refused("35: there are 20 of nobody", Check.STATE, nobody::keepEvening);
    }

    private static void metFromNoneToTwenty() {
        for (int count : new int[] {0, 1, 19, 20}) {
            check.due("36: met on " + count, evenings(count).met(0, 1), count);
            check.due("36: met on " + count, evenings(count).met(1, 0), count);
        }
        check.refused("36: both are the same", Check.ARGUMENT, () -> evenings(20), x -> x.met(1, 1));
        check.refused("36: a 21st one refused counts for nobody", Check.STATE, () -> evenings(20),
                Placecard::keepEvening);
        Placecard house = evenings(1);
        house.rise(1);
        house.keepEvening();
        check.due("36: one had risen", house.met(0, 1), 1);
        house.sit(1, 0, 2);
        check.due("36: not kept yet", house.met(0, 1), 1);
        house.keepEvening();
        check.due("36: kept", house.met(0, 1), 2);
        house.reply(0, false);
        check.due("36: a no later changes no evening", house.met(0, 1), 2);
    }

    private static void unmetFromNoneToAll() {
        Placecard house = sixteenSeats();
        for (int i = 0; i < 16; i++) {
            check.due("37: of " + i, house.unmet(), i * (i - 1) / 2);
            House.invite(house, 1);
        }
        check.due("37: of sixteen", house.unmet(), 120);
        for (int i = 0; i < 10; i++) {
            house.sit(i, 0, i);
        }
        house.keepEvening();
        check.due("37: ten met", house.unmet(), 75);
        Placecard all = evenings(1);
        check.due("37: all met", all.unmet(), 0);
        check.due("37: who does not come is no pair", evenings(0).unmet(), 1);
        all.reply(0, false);
        all.reply(0, true);
        check.due("37: met before a no", all.unmet(), 0);
    }

    // ---- promises 38 to 41

    private static void checksumOfNobody() {
        check.due("38: no guest", new Placecard().checksum(), 7L * 31 * 31);
        check.due("38: no guest, twenty evenings", kept(20).checksum(), 7L * 31 * 31 + 20);
        Placecard house = new Placecard();
        house.addGuest(1, 1, 0, 1, 'b');
        check.due("38: -1 without a seat", house.checksum(), (((7L * 31 - 1) * 31 + 'i') * 31) * 31);
        Placecard seated = House.seated('h', 0, -1);
        check.due("38: 0 on the first seat", seated.checksum(), (((7L * 31) * 31 + 'c') * 31) * 31);
    }

    private static Placecard kept(int count) {
        Placecard house = new Placecard();
        for (int i = 0; i < count; i++) {
            house.keepEvening();
        }
        return house;
    }

    private static void checksumBeyondALong() {
        Placecard house = House.withTables("r2 r2 r2 r2 r2 l10");
        House.invite(house, 16);
        long sum = 7;
        for (int i = 0; i < 16; i++) {
            int table = i < 6 ? i / 2 : 5;
            int seat = i < 6 ? i % 2 : i - 6;
            house.sit(i, table, seat);
            sum = 31 * sum + 100 * table + seat;
            sum = 31 * sum + 99;
        }
        for (int i = 0; i < 16; i++) {
            house.addCondition('d', 6, 7, 9);
            house.keepEvening();
        }
        check.due("38: wraps as a long does", house.checksum(), 31 * (31 * sum + 144) + 16);
    }

    private static void shareFromNoneToAll() {
        Placecard house = House.withTables("r10 h5");
        House.invite(house, 15);
        for (int i = 0; i < 15; i++) {
            check.due("39: " + i + " of 15", house.seatedShare(), (float) i / 15f);
            house.sit(i, i / 10, i % 10);
        }
        check.due("39: all", house.seatedShare(), 1f);
        for (int i = 1; i < 15; i++) {
            house.reply(i, false);
        }
        check.due("39: one of one", house.seatedShare(), 1f);
        house.rise(0);
        check.due("39: none of one", house.seatedShare(), 0f);
        check.refused("39: none comes", Check.ARITHMETIC, () -> {
            Placecard none = House.seated('r', 0, 1);
            none.reply(0, false);
            none.reply(1, false);
            return none;
        }, Placecard::seatedShare);
    }

    private static void meanFromLeastToGreatest() {
        Placecard house = two(0, 0, 99, 0);
        Supplier<Placecard> nobody = () -> two(0, 0, 99, 0);
        check.refused("40: nobody sits there", Check.ARITHMETIC, nobody, x -> x.meanRank(0));
        house.sit(0, 0, 4);
        check.due("40: one of the rank 0", house.meanRank(0), 0.0);
        house.sit(1, 0, 0);
        check.due("40: of 0 and 99", house.meanRank(0), 49.5);
        house.rise(0);
        check.due("40: one of the rank 99", house.meanRank(0), 99.0);
        Placecard ten = House.withTables("h10");
        int sum = 0;
        for (int i = 0; i < 10; i++) {
            ten.addGuest(99 - i * i, 0, 0, 1, 'b');
            ten.reply(i, true);
            ten.sit(i, 0, 9 - i);
            sum += 99 - i * i;
            check.due("40: of " + (i + 1), ten.meanRank(0), (double) sum / (double) (i + 1));
        }
    }

    private static void soundAllTheWay() {
        Placecard house = new Placecard();
        check.due("41: new", house.isSound(), true);
        House.invite(house, 16);
        check.due("41: sixteen wait", house.isSound(), true);
        for (int i = 0; i < 6; i++) {
            house.addTable('h', 2 + i % 2);
            check.due("41: some come", house.isSound(), true);
        }
        for (int i = 0; i < 12; i++) {
            house.sit(i, i % 6, i / 6);
            house.ink(i);
            check.due("41: some sit in ink", house.isSound(), true);
        }
        for (int i = 0; i < 16; i++) {
            house.reply(i, false);
            check.due("41: some said no", house.isSound(), true);
        }
    }

    // ---- "for at most 512 calls"

    private static void lastOfAllCalls() {
        Placecard house = House.seated('h', 6, 5, 4, 3, 2, 1, 0);
        for (int i = 0; i < 16; i++) {
            house.addCondition('t', i % 6, 6, i % 2);
        }
        int calls = 1 + 7 * 3 + 16;
        while (calls < 510) {
            house.bestBroken(0);
            calls++;
        }
        check.due("the call 511", house.arrange(0), 6);
        check.due("the call 512", house.at(0, 0), 0);
    }
}
