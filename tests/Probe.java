import java.util.function.Supplier;

/** Asks a house everything, in parts: each one stays within 512 calls, with some hundred that built the house. */
final class Probe {
    static final int PARTS = 3;

    private final Placecard house;
    private final StringBuilder text = new StringBuilder();

    private Probe(Placecard house) {
        this.house = house;
    }

    /** What a part of all questions and changes answers; a house is used up by one part. */
    static String part(int part, Placecard house) {
        Probe probe = new Probe(house);
        if (part == 0) {
            probe.askTables();
        } else if (part == 1) {
            probe.askGuests();
        } else {
            probe.change();
        }
        return probe.text.toString();
    }

    private void ask(String name, Supplier<Object> answer) {
        text.append(' ').append(name).append(' ');
        try {
            text.append(answer.get());
        } catch (RuntimeException e) {
            text.append(e.getClass().getSimpleName());
        }
    }

    private void askTables() {
        for (int i = 0; i < 6; i++) {
            int table = i;
            ask("table " + table, () -> house.meanRank(table));
            ask("broken", () -> house.bestBroken(table));
            ask("loss", () -> house.bestLoss(table));
            ask("answers", () -> house.answers(table));
            ask("moves", () -> house.moves(table));
            ask("quarrel", () -> house.quarrel(table));
            for (int j = 0; j < 4; j++) {
                int index = j;
                ask("of it", () -> house.quarrelAt(table, index));
            }
            for (int j = 0; j < 3; j++) {
                int book = j;
                ask("faults", () -> house.faults(table, book));
            }
            for (int j = 0; j < 10; j++) {
                int seat = j;
                ask("seat " + seat, () -> house.at(table, seat));
                ask("way", () -> house.way(table, 0, seat));
                ask("best", () -> house.bestAt(table, seat));
            }
            for (int j = 0; j < 16; j++) {
                int condition = j;
                ask("needed", () -> house.isNeeded(table, condition));
            }
        }
    }

    private void askGuests() {
        for (int i = 0; i < 16; i++) {
            int number = i;
            ask("guest " + number, () -> house.stateOf(number));
            ask("on", () -> house.seatOf(number));
            for (int j = 0; j < number; j++) {
                int other = j;
                ask("met", () -> house.met(number, other));
            }
            ask("condition", () -> house.isBroken(number));
            ask("waiting", () -> house.waiting(number));
            for (int j = 0; j < 3; j++) {
                int book = j;
                ask("book", () -> house.first(book, number));
            }
        }
        for (int i = 0; i < 5; i++) {
            int dish = i;
            ask("dish", () -> house.dishes(dish));
        }
        ask("coming", house::coming);
        ask("broken", house::broken);
        ask("loss", house::loss);
        ask("without", house::without);
        ask("unmet", house::unmet);
        ask("checksum", house::checksum);
        ask("share", house::seatedShare);
        ask("sound", house::isSound);
    }

    /** Changes that bring to light what no question tells: cards, dropped conditions, the queue, locked counts. */
    private void change() {
        for (int i = 0; i < 16; i++) {
            int number = i;
            ask("rise", () -> house.rise(number));
        }
        for (int i = 0; i < 16; i++) {
            int number = i;
            ask("tear", () -> house.tear(number));
            ask("drop", () -> house.drop(number, false));
        }
        ask("broken", house::broken);
        ask("loss", house::loss);
        for (int i = 0; i < 6; i++) {
            ask("addTable", () -> house.addTable('r', 9));
        }
        for (int i = 15; i >= 0; i--) {
            int number = i;
            ask("yes", () -> house.reply(number, true));
            ask("without", house::without);
        }
        for (int i = 0; i < 16; i++) {
            int number = i;
            ask("no", () -> house.reply(number, false));
            ask("without", house::without);
            ask("addGuest", () -> house.addGuest(number, number, 0, 1, 'b'));
            ask("addCondition", () -> house.addCondition('b', 0, 1, number % 10));
        }
        for (int i = 0; i <= 20; i++) {
            ask("keepEvening", house::keepEvening);
        }
        ask("lock", house::lock);
        ask("checksum", house::checksum);
    }
}
