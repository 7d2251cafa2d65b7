/** Houses that the tests begin with. */
final class House {
    private House() {
    }

    /** A house with tables of these kinds and sizes, written as "r5 l4". */
    static Placecard withTables(String tables) {
        Placecard house = new Placecard();
        for (String table : tables.split(" ")) {
            house.addTable(table.charAt(0), Integer.parseInt(table.substring(1)));
        }
        return house;
    }

    /** Guests who are alike, with rank 10, and come as far as there are seats. */
    static void invite(Placecard house, int count) {
        for (int i = 0; i < count; i++) {
            house.reply(house.addGuest(10, 10, 0, 1, 'b'), true);
        }
    }

    /** One table at which the guests 0, 1, 2, .. sit in the order of the seats; -1 leaves a seat free. */
    static Placecard seated(char kind, int... guests) {
        Placecard house = new Placecard();
        int table = house.addTable(kind, guests.length);
        int count = 0;
        for (int guest : guests) {
            count = Math.max(count, guest + 1);
        }
        invite(house, count);
        for (int seat = 0; seat < guests.length; seat++) {
            if (guests[seat] >= 0) {
                house.sit(guests[seat], table, seat);
            }
        }
        return house;
    }

    /** Ten who come, two who wait, one no, one invited; seated at three tables, two cards in ink, five conditions. */
    static Placecard full() {
        Placecard house = withTables("r5 l4 h2");
        for (int i = 0; i < 15; i++) {
            house.addGuest(10 * (i % 4), 20 + 7 * i % 50, i % 5, 1 + 5 * i % 31, "blr".charAt(i % 3));
        }
        for (int i = 0; i < 14; i++) {
            house.reply(i, i != 13);
        }
        for (int i = 0; i < 5; i++) {
            house.sit(i, 0, (i * 2) % 5);
        }
        house.sit(5, 1, 3);
        house.sit(6, 1, 0);
        house.sit(7, 2, 1);
        house.ink(2);
        house.ink(6);
        house.addCondition('b', 0, 1, 0);
        house.addCondition('n', 2, 3, 0);
        house.addCondition('e', 4, 0, 6);
        house.addCondition('d', 1, 3, 0);
        house.addCondition('s', 1, 4, 3);
        house.drop(3, true);
        house.lock();
        house.keepEvening();
        return house;
    }
}
