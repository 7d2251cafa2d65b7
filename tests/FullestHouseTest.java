import java.util.ArrayList;
import java.util.List;

/**
 * "An object is used for at most 512 calls after it has been made": the fullest houses, each call of the face among
 * the last ones and as the very last. What is due is told by the slow house; a round of calls leaves a house as it was.
 */
public final class FullestHouseTest {
    private static final int MOST_CALLS = 512;

    private static final Check check = new Check("FullestHouseTest");

    private final String name;
    private final List<String> build = new ArrayList<>();
    private final List<String> round = new ArrayList<>();

    private FullestHouseTest(String name) {
        this.name = name;
    }

    public static void main(String[] args) {
        sixTablesOfTen().live();
        fifteenSeats().live();
        thirteenSeats().live();
        check.end();
    }

    // ---- the houses

    /** Six tables with ten seats each: all sixteen come, seven sit at the first table and six at the second one. */
    private static FullestHouseTest sixTablesOfTen() {
        FullestHouseTest house = new FullestHouseTest("six tables of ten");
        house.invite("r10 h10 l10 r10 h10 l10");
        for (int guest = 0; guest < 16; guest++) {
            int table = guest < 7 ? 0 : guest < 13 ? 1 : guest - 11;
            house.sit(guest, table, guest * 3 % 10);
        }
        house.bind(7, 7, 6);
        house.askAll(0, 1, 10);
        house.ask("addTable('r', 10)");
        // The last guest says no and yes, and sits again.
        house.ask("reply(15, false)", "reply(15, true)", "sit(15, 4, 5)", "rise(13)", "sit(13, 5, 9)", "rise(13)",
                "sit(13, 2, 9)", "waiting(0)", "swap(14, 15)", "swap(15, 14)", "bestBroken(5)", "answers(5)");
        return house;
    }

    /** Six tables with fifteen seats in all: one of sixteen guests waits. */
    private static FullestHouseTest fifteenSeats() {
        FullestHouseTest house = new FullestHouseTest("fifteen seats");
        house.invite("r5 h2 l2 r2 h2 l2");
        for (int guest = 0; guest < 15; guest++) {
            house.sit(guest, guest < 5 ? 0 : (guest - 3) / 2, guest < 5 ? guest : (guest + 1) % 2);
        }
        house.bind(5, 5, 10);
        house.askAll(0, 3, 5);
        house.ask("addTable('r', 10)");
        // One who comes says no, so that the one who waits comes, says no, and waits again.
        house.ask("waiting(0)", "reply(14, false)", "stateOf(15)", "reply(15, false)", "reply(14, true)",
                "sit(14, 5, 1)", "reply(15, true)", "waiting(0)", "waiting(1)", "swap(5, 14)", "swap(14, 5)");
        return house;
    }

    /** Two full tables, of seven and of six seats; three wait. */
    private static FullestHouseTest thirteenSeats() {
        FullestHouseTest house = new FullestHouseTest("thirteen seats");
        house.invite("h7 l6");
        for (int guest = 0; guest < 13; guest++) {
            house.sit(guest, guest < 7 ? 0 : 1, guest < 7 ? 6 - guest : guest - 7);
        }
        house.bind(7, 7, 6);
        house.askAll(0, 1, 7);
        house.ask("waiting(0)", "waiting(2)", "reply(15, false)", "waiting(2)", "reply(15, true)", "waiting(2)",
                "sit(13, 0, 0)", "reply(13, true)", "swap(0, 7)", "swap(7, 0)", "quarrelAt(1, 2)", "quarrelAt(0, 0)");
        return house;
    }

    private void invite(String tables) {
        for (String table : tables.split(" ")) {
            build.add("addTable('" + table.charAt(0) + "', " + table.substring(1) + ")");
        }
        for (int guest = 0; guest < 16; guest++) {
            build.add("addGuest(" + guest * 37 % 100 + ", " + guest * 53 % 121 + ", " + guest % 5 + ", "
                    + (1 << guest % 5) + ", '" + "blr".charAt(guest % 3) + "')");
        }
        for (int guest = 0; guest < 16; guest++) {
            build.add("reply(" + guest + ", true)");
            if (guest == 11) {
                build.add("lock()");
            }
        }
    }

    private void sit(int guest, int table, int seat) {
        build.add("sit(" + guest + ", " + table + ", " + seat + ")");
    }

    /** Sixteen conditions, most of the first so many guests and of those after them; then cards and evenings. */
    private void bind(int first, int from, int more) {
        for (int i = 0; i < 16; i++) {
            boolean isFirst = i % 2 == 0;
            int count = isFirst ? first : more;
            int guest = (isFirst ? 0 : from) + i / 2 % count;
            int other = (isFirst ? 0 : from) + (i / 2 + 2 + i % 3) % count;
            build.add("addCondition('" + "bnaosetdnbsaenbo".charAt(i) + "', " + guest + ", "
                    + (guest == other ? guest == 0 ? 1 : 0 : other) + ", " + (i % 4 == 0 ? i / 4 + 6 : 0) + ")");
        }
        for (int i = 0; i < 20; i++) {
            build.add("keepEvening()");
        }
        build.add("ink(2)");
        build.add("ink(9)");
        build.add("drop(7, true)");
        // Tables that are in their best order, so that a round of calls can bring them back to it.
        build.add("arrange(0)");
        build.add("arrange(1)");
        build.add("arrange(3)");
    }

    private void ask(String... calls) {
        round.addAll(List.of(calls));
    }

    /** Each call of the face; of tables the one with the most guests, and one of which a quarrel can be asked. */
    private void askAll(int most, int table, int seats) {
        ask("way(" + most + ", 0, " + (seats - 1) + ")", "addTable('l', 9)", "addGuest(1, 1, 1, 1, 'b')",
                "reply(0, true)", "stateOf(15)", "coming()", "seatOf(6)", "at(0, 0)", "at(0, " + (seats - 1) + ")");
        ask("sit(0, 0, 0)", "rise(2)", "swap(0, 1)", "swap(1, 3)", "bestLoss(" + most + ")", "arrange(" + most + ")",
                "ink(0)", "tear(0)", "swap(2, 0)", "ink(2)");
        ask("addCondition('b', 0, 1, 0)", "drop(0, true)", "bestBroken(0)", "drop(0, false)", "isBroken(15)",
                "isBroken(14)", "broken()", "loss()", "drop(7, false)", "quarrel(" + table + ")", "drop(7, true)");
        ask("bestBroken(" + most + ")", "bestAt(" + most + ", 0)", "bestAt(" + most + ", " + (seats - 1) + ")",
                "answers(" + most + ")", "answers(" + table + ")", "isNeeded(" + most + ", 2)",
                "isNeeded(" + table + ", 15)", "quarrel(" + table + ")", "quarrelAt(" + table + ", 0)",
                "quarrel(" + most + ")", "moves(" + most + ")", "moves(" + table + ")", "arrange(" + table + ")");
        ask("faults(" + most + ", 0)", "faults(" + most + ", 1)", "faults(" + table + ", 2)", "first(0, 11)",
                "first(1, 0)", "first(2, 12)", "first(2, 16)", "dishes(0)", "dishes(4)", "without()", "keepEvening()",
                "met(0, 1)", "met(0, 15)", "unmet()", "checksum()", "seatedShare()", "meanRank(" + most + ")",
                "meanRank(5)", "isSound()");
    }

    // ---- their lives

    private static String slowAnswer(SlowHouse slow, String call) {
        return call.equals("isSound()") ? "true" : Rows.ask(slow, call);
    }

    private static List<String> slowAnswers(SlowHouse slow, List<String> calls) {
        List<String> found = new ArrayList<>();
        for (String call : calls) {
            found.add(slowAnswer(slow, call));
        }
        return found;
    }

    private void live() {
        SlowHouse slow = new SlowHouse();
        List<String> dueFirst = slowAnswers(slow, build);
        // lock() is in no round, since it would hide what is in excess.
        List<String> due = slowAnswers(slow, round);
        check.due(name + ": a round leaves the house as it was", slowAnswers(slow, round), due);
        for (int shift = 0; shift < round.size(); shift++) {
            liveTo(shift, dueFirst, due);
        }
        lastLock(slow);
    }

    /** All calls of a house up to the last one; as many idle ones go ahead of the rounds as are told. */
    private void liveTo(int shift, List<String> dueFirst, List<String> due) {
        Placecard house = new Placecard();
        int calls = 0;
        for (; calls < build.size(); calls++) {
            String call = build.get(calls);
            check.due(name + ", call " + (calls + 1) + " " + call, Rows.ask(house, call), dueFirst.get(calls));
        }
        for (int i = 0; i < shift; i++) {
            Rows.ask(house, "coming()");
            calls++;
        }
        for (int i = 0; calls < MOST_CALLS; i = (i + 1) % round.size()) {
            calls++;
            check.due(name + ", call " + calls + " " + round.get(i), Rows.ask(house, round.get(i)), due.get(i));
        }
    }

    /** lock() as the last call of all, and ahead of the last one. */
    private void lastLock(SlowHouse slow) {
        for (int last = 0; last < 2; last++) {
            Placecard house = new Placecard();
            for (String call : build) {
                Rows.ask(house, call);
            }
            for (int calls = build.size(); calls < MOST_CALLS - 1 - last; calls++) {
                Rows.ask(house, "bestLoss(0)");
            }
            check.due(name + ": lock()", Rows.ask(house, "lock()"), Rows.ask(slow, "lock()"));
            if (last == 1) {
                check.due(name + ": without()", Rows.ask(house, "without()"), Rows.ask(slow, "without()"));
            }
        }
    }
}
