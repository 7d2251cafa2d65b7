import java.util.ArrayList;
import java.util.List;
import java.util.function.Supplier;

/** Long mixed runs, right and wrong inputs, with each answer compared with that of the slow house. */
public final class ModelTest {
    private static final int RUNS = 600;
    private static final int CALLS = 480;
    private static final int QUARREL_RUNS = 240;
    private static final String[] QUARREL_KINDS = {"nnnnnna", "nsss", "ntsnaa", "bnaosse"};

    private final Check check;
    private final int run;
    private final Placecard house = new Placecard();
    private final SlowHouse slow = new SlowHouse();
    private final List<Integer> sizes = new ArrayList<>();
    private long seed;
    private int calls;
    private int guests;
    private int conditions;

    private ModelTest(Check check, int run) {
        this.check = check;
        this.run = run;
        seed = run * 7919L + 12345;
    }

    public static void main(String[] args) {
        Check check = new Check("ModelTest");
        for (int run = 0; run < RUNS; run++) {
            new ModelTest(check, run).go();
        }
        for (int run = 0; run < QUARREL_RUNS; run++) {
            new ModelTest(check, run).quarrels();
        }
        check.end();
    }

    /** A number from low to high, the same ones in each run of the test. */
    private int pick(int low, int high) {
        seed = seed * 6364136223846793005L + 1442695040888963407L;
        return low + (int) ((seed >>> 33) % (high - low + 1));
    }

    /** Mostly a number from 0 to most, now and then one beside. */
    private int nearly(int most) {
        int luck = pick(0, 59);
        if (luck == 0) {
            return -1;
        }
        return luck == 1 ? most + 1 : pick(0, Math.max(0, most));
    }

    private char oneOf(String signs) {
        return signs.charAt(pick(0, signs.length() - 1));
    }

    private void compare(String call, Supplier<Object> got, Supplier<Object> want) {
        calls++;
        check.due("run " + run + ", call " + calls + " " + call, outcomeOf(got, true), outcomeOf(want, false));
    }

    private static String outcomeOf(Supplier<Object> answer, boolean isOfHouse) {
        try {
            return String.valueOf(answer.get());
        } catch (RuntimeException e) {
            return "throws." + e.getClass().getSimpleName() + (isOfHouse ? Check.whoElseThrew(e) : "");
        }
    }

    /** Crowded: one table full of guests and hard conditions; else several tables, or one thing and another. */
    private void go() {
        boolean isCrowded = run % 2 == 0;
        int wanted = isCrowded ? pick(1, 2) : pick(2, 5);
        for (int i = 0; i < wanted; i++) {
            addTable(isCrowded && i == 0 ? oneOf("rhl") : oneOf("rrrhhhlllx"), isCrowded && i == 0);
        }
        for (int i = 0; i < (isCrowded ? sizes.get(0) + 1 : pick(6, 16)); i++) {
            addGuest();
        }
        for (int i = 0; i < guests; i++) {
            int guest = i;
            compare("reply(" + guest + ")", () -> house.reply(guest, true), () -> slow.reply(guest, true));
        }
        for (int i = 0; i < 60 + guests * 5; i++) {
            sit();
        }
        for (int i = isCrowded ? pick(0, 8) : pick(3, 13); i < 16; i++) {
            addCondition();
        }
        while (calls < CALLS) {
            anyCall();
        }
        compare("isSound", house::isSound, () -> true);
    }

    private void addTable() {
        addTable(oneOf("rrrhhhlllx"), false);
    }

    private void addTable(char kind, boolean isMiddling) {
        int seats = isMiddling ? 2 * pick(2, 4) - (kind == 'l' ? 0 : pick(0, 1)) : pick(1, 11);
        int before = sizes.size();
        compare("addTable(" + kind + ", " + seats + ")", () -> house.addTable(kind, seats),
                () -> keepSize(slow.addTable(kind, seats), seats));
        if (isMiddling && sizes.size() == before) {
            throw new IllegalStateException("the test's own table is refused");
        }
    }

    private Object keepSize(int table, int seats) {
        sizes.add(seats);
        return table;
    }

    private void addGuest() {
        int rank = run % 3 == 0 ? nearly(99) : nearly(3);
        int age = run % 3 == 0 ? nearly(120) : nearly(4);
        int dish = nearly(4);
        int tongues = 1 << pick(0, 4) | (pick(0, 9) == 0 ? 64 >> pick(0, 5) : 0);
        char ear = oneOf("blrblrblrblrx");
        compare("addGuest(" + rank + ", " + age + ", " + dish + ", " + tongues + ", " + ear + ")",
                () -> house.addGuest(rank, age, dish, tongues, ear),
                () -> keepGuest(slow.addGuest(rank, age, dish, tongues, ear)));
    }

    private Object keepGuest(int guest) {
        guests = guest + 1;
        return guest;
    }

    private int anyGuest() {
        return nearly(guests - 1);
    }

    private int anyTable() {
        return run % 2 == 0 && pick(0, 2) != 0 ? 0 : nearly(sizes.size() - 1);
    }

    private int anySeat(int table) {
        return nearly(table >= 0 && table < sizes.size() ? sizes.get(table) - 1 : 9);
    }

    private int anyCondition() {
        return nearly(conditions - 1);
    }

    private void sit() {
        int guest = anyGuest();
        int table = anyTable();
        int seat = anySeat(table);
        compare("sit(" + guest + ", " + table + ", " + seat + ")", () -> house.sit(guest, table, seat),
                () -> slow.sit(guest, table, seat));
    }

    private void addCondition() {
        char kind = oneOf(run % 4 == 0 ? "bbnnaosetx" : "bnatdosebnase");
        int guest = anyGuest();
        int other = anyGuest();
        int weight = pick(0, 4) == 0 ? nearly(9) : 0;
        compare("addCondition(" + kind + ", " + guest + ", " + other + ", " + weight + ")",
                () -> house.addCondition(kind, guest, other, weight),
                () -> keepCondition(slow.addCondition(kind, guest, other, weight)));
    }

    private Object keepCondition(int condition) {
        conditions = condition + 1;
        return condition;
    }

    /** Six guests and sixteen hard conditions, of kinds that quarrel only as many come together. */
    private void quarrels() {
        char kind = oneOf("rhl");
        house.addTable(kind, kind == 'l' ? 6 : 6 + run % 4);
        slow.addTable(kind, kind == 'l' ? 6 : 6 + run % 4);
        for (int i = 0; i < 6; i++) {
            int guest = i;
            int tongues = 1 << pick(0, 4);
            char ear = oneOf("blr");
            compare("addGuest", () -> house.addGuest(1, 1, 1, tongues, ear), () -> slow.addGuest(1, 1, 1, tongues, ear));
            compare("reply", () -> house.reply(guest, true), () -> slow.reply(guest, true));
            compare("sit", () -> house.sit(guest, 0, guest), () -> slow.sit(guest, 0, guest));
        }
        for (int i = 0; i < 16; i++) {
            char told = oneOf(QUARREL_KINDS[run % QUARREL_KINDS.length]);
            int guest = pick(0, 5);
            int other = (guest + pick(1, 5)) % 6;
            compare("addCondition(" + told + ", " + guest + ", " + other + ")",
                    () -> house.addCondition(told, guest, other, 0), () -> slow.addCondition(told, guest, other, 0));
        }
        compare("quarrel(0)", () -> house.quarrel(0), () -> slow.quarrel(0));
        List<Integer> least = slow.leastQuarrel(0);
        for (int i = 0; i < least.size(); i++) {
            int index = i;
            compare("quarrelAt(0, " + index + ")", () -> house.quarrelAt(0, index), () -> least.get(index));
        }
    }

    private void anyCall() {
        int luck = pick(0, 99);
        if (run % 4 == 2) {
            // Runs that mostly ask for orders, of a table that stays full.
            luck = luck < 20 ? pick(18, 35) : pick(80, 99);
        }
        if (luck < 40) {
            change(luck);
        } else if (luck < 65) {
            ask(luck);
        } else if (luck < 85) {
            count(luck);
        } else {
            order(luck);
        }
    }

    private void change(int luck) {
        int guest = anyGuest();
        int other = anyGuest();
        boolean is = pick(0, 2) != 0;
        if (luck < 12) {
            sit();
        } else if (luck < 18) {
            compare("reply(" + guest + ", " + is + ")", () -> house.reply(guest, is), () -> slow.reply(guest, is));
        } else if (luck < 20) {
            compare("rise(" + guest + ")", () -> house.rise(guest), () -> slow.rise(guest));
        } else if (luck < 26) {
            compare("swap(" + guest + ", " + other + ")", () -> house.swap(guest, other),
                    () -> slow.swap(guest, other));
        } else if (luck < 28) {
            compare("ink(" + guest + ")", () -> house.ink(guest), () -> slow.ink(guest));
        } else if (luck < 31) {
            compare("tear(" + guest + ")", () -> house.tear(guest), () -> slow.tear(guest));
        } else if (luck < 33) {
            addCondition();
        } else if (luck < 36) {
            int condition = anyCondition();
            compare("drop(" + condition + ", " + is + ")", () -> house.drop(condition, is),
                    () -> slow.drop(condition, is));
        } else if (luck < 37) {
            compare("lock", house::lock, slow::lock);
        } else if (luck < 38) {
            compare("keepEvening", house::keepEvening, slow::keepEvening);
        } else if (pick(0, 9) == 0) {
            addTable();
            addGuest();
        } else {
            int table = anyTable();
            compare("arrange(" + table + ")", () -> house.arrange(table), () -> slow.arrange(table));
        }
    }

    private void ask(int luck) {
        int guest = anyGuest();
        int table = anyTable();
        int seat = anySeat(table);
        int other = anySeat(table);
        int condition = anyCondition();
        if (luck < 44) {
            compare("way(" + table + ", " + seat + ", " + other + ")", () -> house.way(table, seat, other),
                    () -> slow.way(table, seat, other));
        } else if (luck < 46) {
            compare("stateOf(" + guest + ")", () -> house.stateOf(guest), () -> slow.stateOf(guest));
        } else if (luck < 48) {
            compare("seatOf(" + guest + ")", () -> house.seatOf(guest), () -> slow.seatOf(guest));
        } else if (luck < 51) {
            compare("at(" + table + ", " + seat + ")", () -> house.at(table, seat), () -> slow.at(table, seat));
        } else if (luck < 53) {
            compare("waiting(" + (seat - 1) + ")", () -> house.waiting(seat - 1), () -> slow.waiting(seat - 1));
        } else if (luck < 58) {
            compare("isBroken(" + condition + ")", () -> house.isBroken(condition), () -> slow.isBroken(condition));
        } else if (luck < 60) {
            compare("broken", house::broken, slow::broken);
        } else if (luck < 62) {
            compare("loss", house::loss, slow::loss);
        } else {
            compare("coming", house::coming, slow::coming);
        }
    }

    private void count(int luck) {
        int guest = anyGuest();
        int other = anyGuest();
        int table = anyTable();
        int book = nearly(2);
        int index = nearly(guests - 1);
        int dish = nearly(4);
        if (luck < 68) {
            compare("faults(" + table + ", " + book + ")", () -> house.faults(table, book),
                    () -> slow.faults(table, book));
        } else if (luck < 71) {
            compare("first(" + book + ", " + index + ")", () -> house.first(book, index),
                    () -> slow.first(book, index));
        } else if (luck < 73) {
            compare("dishes(" + dish + ")", () -> house.dishes(dish), () -> slow.dishes(dish));
        } else if (luck < 75) {
            compare("without", house::without, slow::without);
        } else if (luck < 77) {
            compare("met(" + guest + ", " + other + ")", () -> house.met(guest, other), () -> slow.met(guest, other));
        } else if (luck < 79) {
            compare("unmet", house::unmet, slow::unmet);
        } else if (luck < 81) {
            compare("checksum", house::checksum, slow::checksum);
        } else if (luck < 83) {
            compare("seatedShare", house::seatedShare, slow::seatedShare);
        } else {
            compare("meanRank(" + table + ")", () -> house.meanRank(table), () -> slow.meanRank(table));
        }
    }

    private void order(int luck) {
        int table = anyTable();
        int condition = anyCondition();
        int seat = anySeat(table);
        int index = nearly(3);
        if (luck < 87) {
            compare("bestBroken(" + table + ")", () -> house.bestBroken(table), () -> slow.bestBroken(table));
        } else if (luck < 89) {
            compare("bestLoss(" + table + ")", () -> house.bestLoss(table), () -> slow.bestLoss(table));
        } else if (luck < 91) {
            compare("bestAt(" + table + ", " + seat + ")", () -> house.bestAt(table, seat),
                    () -> slow.bestAt(table, seat));
        } else if (luck < 92) {
            compare("answers(" + table + ")", () -> house.answers(table), () -> slow.answers(table));
        } else if (luck < 94) {
            compare("isNeeded(" + table + ", " + condition + ")", () -> house.isNeeded(table, condition),
                    () -> slow.isNeeded(table, condition));
        } else if (luck < 96) {
            compare("quarrel(" + table + ")", () -> house.quarrel(table), () -> slow.quarrel(table));
        } else if (luck < 98) {
            compare("quarrelAt(" + table + ", " + index + ")", () -> house.quarrelAt(table, index),
                    () -> slow.quarrelAt(table, index));
        } else {
            compare("moves(" + table + ")", () -> house.moves(table), () -> slow.moves(table));
        }
    }
}
