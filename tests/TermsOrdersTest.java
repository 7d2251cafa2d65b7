import java.util.function.Consumer;
import java.util.function.Supplier;

/** "Terms": the sentences on orders, riddles, quarrels and moves that name a boundary case, a test for each. */
public final class TermsOrdersTest {
    private static final Check check = new Check("TermsOrdersTest");

    public static void main(String[] args) {
        seatsThatTheyHaveNow();
        allElseStays();
        fewerHardOnesFirst();
        ofLikeHardOnesLessLoss();
        ofLikeOnesTheLowerGuest();
        theFirstUnlikeSeatTells();
        likeOnesAreNotKeptAsTheyAre();
        allButThoseInInk();
        answersFromNoneToAll();
        answersOfNobody();
        cardsAside();
        bothGuestsAtThatTable();
        neededIfThereWouldBeMore();
        noOrderKeepsAll();
        theFewest();
        asManyAsPairs();
        theLowestThenTheSecond();
        fewestMoves();
        noHardConditionAtAll();
        sevenAndEight();
        sixAndSeven();
        check.end();
    }

    /** Who sits by the best order, a dot for a free seat. */
    private static String bestRow(Placecard house, int table, int seats) {
        StringBuilder row = new StringBuilder();
        for (int seat = 0; seat < seats; seat++) {
            try {
                row.append(house.bestAt(table, seat));
            } catch (RuntimeException e) {
                row.append('.');
            }
        }
        return row.toString();
    }

    private static String rowOf(Placecard house, int table, int seats) {
        StringBuilder row = new StringBuilder();
        for (int seat = 0; seat < seats; seat++) {
            try {
                row.append(house.at(table, seat));
            } catch (RuntimeException e) {
                row.append('.');
            }
        }
        return row.toString();
    }

    /** A row at which these guests sit, with a text of their ears and conditions as "e01 0". */
    private static Placecard row(String guests, String ears, String... conditions) {
        Placecard house = House.withTables("h" + guests.length());
        for (char ear : ears.toCharArray()) {
            house.reply(house.addGuest(1, 1, 0, 1, ear), true);
        }
        for (int seat = 0; seat < guests.length(); seat++) {
            if (guests.charAt(seat) != '.') {
                house.sit(guests.charAt(seat) - '0', 0, seat);
            }
        }
        for (String text : conditions) {
            house.addCondition(text.charAt(0), text.charAt(1) - '0', text.charAt(2) - '0', text.charAt(4) - '0');
        }
        return house;
    }

    // ---- Orders

    private static void seatsThatTheyHaveNow() {
        Placecard house = row(".2.10.", "bbb", "b02 0");
        check.due("its seats that they have now: the best order", bestRow(house, 0, 6), ".1.02.");
        check.due("its seats that they have now: arrange(0)", house.arrange(0), 3);
        check.due("its seats that they have now: arranged", rowOf(house, 0, 6), ".1.02.");
        Placecard apart = row("0.1", "bb", "b01 0");
        check.due("its seats that they have now: no free seat helps", apart.bestBroken(0), 1);
        check.due("its seats that they have now: no free seat helps", apart.answers(0), 0);
        check.due("its seats that they have now: no free seat helps", apart.quarrel(0), 1);
        check.refused("no free seat helps: moves(0)", Check.ELEMENT, () -> apart.moves(0));
    }

    private static void allElseStays() {
        Placecard house = House.withTables("h3 h3");
        House.invite(house, 7);
        for (int i = 0; i < 6; i++) {
            house.sit(5 - i, i / 3, i % 3);
        }
        house.lock();
        house.keepEvening();
        house.drop(house.addCondition('d', 0, 1, 9), true);
        house.ink(1);
        check.due("arrange(0)", house.arrange(0), 2);
        check.due("all else stays: the other table", rowOf(house, 1, 3), "210");
        check.due("all else stays: met(0, 5)", house.met(0, 5), 0);
        check.due("all else stays: met(3, 5)", house.met(3, 5), 1);
        check.due("all else stays: the card", house.tear(1), 0);
        check.due("all else stays: who waits", house.waiting(0), 6);
        check.due("all else stays: the dropped condition", house.drop(0, true), true);
        check.due("all else stays: coming()", house.coming(), 6);
    }

    private static void fewerHardOnesFirst() {
        Placecard house = row("012", "bbb", "b02 0", "n02 9", "d01 1");
        check.due("fewer hard conditions: bestBroken(0)", house.bestBroken(0), 0);
        check.due("fewer hard conditions, though more loss", house.bestLoss(0), 10);
        check.due("fewer hard conditions: the order", bestRow(house, 0, 3), "021");
        Placecard two = row("012", "bbb", "b02 0", "n02 0", "n02 0", "n02 1");
        check.due("fewer hard conditions, one broken, not two", two.bestBroken(0), 1);
        check.due("fewer hard conditions, one broken, not two", bestRow(two, 0, 3), "012");
    }

    private static void ofLikeHardOnesLessLoss() {
        Placecard house = row("01", "lb", "e01 1");
        check.due("of like ones less loss, though a higher guest", bestRow(house, 0, 2), "10");
        check.due("of like ones less loss", house.bestLoss(0), 0);
        Placecard both = row("01", "lb", "e01 1", "d01 0", "d01 9");
        check.due("of like ones that break one less loss", bestRow(both, 0, 2), "10");
        check.due("of like ones that break one: bestBroken(0)", both.bestBroken(0), 1);
        check.due("of like ones that break one: bestLoss(0)", both.bestLoss(0), 9);
    }

    private static void ofLikeOnesTheLowerGuest() {
        Placecard house = row("210", "bbb");
        check.due("of like ones the lower guest: no condition", bestRow(house, 0, 3), "012");
        Placecard alike = row("10", "bb", "d01 0", "d01 5");
        check.due("of like ones the lower guest: all broken", bestRow(alike, 0, 2), "01");
        check.due("of like ones the lower guest: arrange(0)", alike.arrange(0), 2);
    }

    private static void theFirstUnlikeSeatTells() {
        Placecard house = row("2130", "bbbb", "n01 3");
        check.due("the first seat with another guest: the second one", bestRow(house, 0, 4), "0213");
        Placecard last = row("3210", "bbbb", "n23 3", "n01 3", "b13 3");
        check.due("the first seat with another guest: the last ones", bestRow(last, 0, 4), "0213");
        Placecard middle = row("3210", "bbbb", "b03 0");
        check.due("the first seat with another guest: the higher one after it", bestRow(middle, 0, 4), "0312");
    }

    private static void likeOnesAreNotKeptAsTheyAre() {
        Placecard house = row("210", "bbb", "b01 0");
        check.due("a like order now: moves(0)", house.moves(0), 0);
        check.due("a like order now: arrange(0)", house.arrange(0), 2);
        check.due("a like order now: arranged", rowOf(house, 0, 3), "012");
        check.due("arranged: arrange(0)", house.arrange(0), 0);
    }

    private static void allButThoseInInk() {
        String[] want = {"0123", "3012", "3201", "3210", "3210"};
        for (int count = 0; count <= 4; count++) {
            Placecard house = row("3210", "bbbb");
            for (int i = 0; i < count; i++) {
                house.ink(3 - i);
            }
            check.due("all but those in ink: " + count + " in ink", bestRow(house, 0, 4), want[count]);
        }
    }

    // ---- riddles

    private static void answersFromNoneToAll() {
        check.due("answers: none", row("012", "bbb", "a01 0").answers(0), 0);
        check.due("answers: one", row("012", "rrr", "e01 0", "e12 0").answers(0), 1);
        check.due("answers: two", row("012", "bbb", "n01 0").answers(0), 2);
        check.due("answers: four", row("012", "bbb", "b01 0").answers(0), 4);
        check.due("answers: all, soft ones aside", row("012", "bbb", "d01 9", "a12 1").answers(0), 6);
        check.due("answers: all of one", row("0.", "b").answers(0), 1);
        check.due("answers: all of two", row("01", "bb").answers(0), 2);
        check.due("answers: all of seven", row("6543210", "bbbbbbb").answers(0), 5040);
    }

    private static void answersOfNobody() {
        Placecard house = House.withTables("r2 h2");
        House.invite(house, 2);
        check.due("1 if nobody sits there", house.answers(0), 1);
        house.sit(0, 1, 0);
        house.sit(1, 1, 1);
        house.addCondition('d', 0, 1, 0);
        check.due("1 if nobody sits there, what is broken elsewhere aside", house.answers(0), 1);
        check.due("0 where it is broken", house.answers(1), 0);
    }

    private static void cardsAside() {
        Placecard house = row("012", "bbb", "b02 0");
        for (int i = 0; i < 3; i++) {
            house.ink(i);
        }
        check.due("cards aside: answers(0)", house.answers(0), 4);
        check.due("cards aside: isNeeded(0, 0)", house.isNeeded(0, 0), true);
        check.due("cards aside: quarrel(0)", house.quarrel(0), 0);
        check.due("cards not aside: bestBroken(0)", house.bestBroken(0), 1);
        check.refused("cards not aside: moves(0)", Check.ELEMENT, () -> house.moves(0));
    }

    private static void bothGuestsAtThatTable() {
        Placecard house = House.withTables("h2 h2");
        House.invite(house, 4);
        house.sit(0, 0, 0);
        house.sit(1, 0, 1);
        house.sit(2, 1, 0);
        house.addCondition('t', 0, 2, 0);
        house.addCondition('t', 2, 1, 0);
        house.addCondition('t', 0, 3, 0);
        for (int i = 0; i < 3; i++) {
            check.due("both guests sit at that table: isNeeded(0, " + i + ")", house.isNeeded(0, i), false);
        }
        check.due("both guests sit at that table: answers(0)", house.answers(0), 2);
        check.due("both guests sit at that table: answers(1)", house.answers(1), 1);
        check.due("both guests sit at that table: quarrel(0)", house.quarrel(0), 0);
        check.due("of all conditions: bestBroken(0)", house.bestBroken(0), 2);
    }

    private static void neededIfThereWouldBeMore() {
        check.due("needed, one answer more", row("10", "rb", "e01 0").isNeeded(0, 0), true);
        check.due("needed, none to all", row("01", "bb", "d01 0").isNeeded(0, 0), true);
        check.due("not needed, told twice", row("01", "rb", "e01 0", "e01 0").isNeeded(0, 0), false);
        check.due("not needed, told twice", row("01", "rb", "e01 0", "e01 0").isNeeded(0, 1), false);
        check.due("not needed, kept by all", row("01", "bb", "b01 0").isNeeded(0, 0), false);
        check.due("not needed, the other one is narrower", row("012", "rbb", "b01 0", "e01 0").isNeeded(0, 0), false);
        check.due("needed, the narrower one", row("012", "rbb", "b01 0", "e01 0").isNeeded(0, 1), true);
        check.due("not needed, a soft one", row("01", "rb", "e01 1").isNeeded(0, 0), false);
        check.due("not needed, none without it either", row("012", "bbb", "d01 0", "d12 0").isNeeded(0, 1), false);
        Placecard last = row("012", "rbb", "t01 1", "t01 1", "t01 1", "t01 1", "t01 1", "t01 1", "t01 1", "t01 1",
                "t01 1", "t01 1", "t01 1", "t01 1", "t01 1", "t01 1", "t01 1", "e01 0");
        check.due("needed, the condition 15", last.isNeeded(0, 15), true);
        check.due("not needed, the condition 14", last.isNeeded(0, 14), false);
    }

    // ---- quarrels

    private static String quarrelOf(Placecard house, int table) {
        StringBuilder text = new StringBuilder();
        int count = house.quarrel(table);
        for (int i = 0; i < count; i++) {
            text.append(house.quarrelAt(table, i)).append(' ');
        }
        check.refused("quarrelAt(" + table + ", " + count + ")", Check.ELEMENT, () -> house.quarrelAt(table, count));
        return text.toString().trim();
    }

    private static void noOrderKeepsAll() {
        check.due("an order keeps all: one", quarrelOf(row("012", "rrr", "e01 0", "e12 0"), 0), "");
        check.due("no order keeps all", quarrelOf(row("012", "rrr", "e01 0", "e12 0", "e20 0"), 0), "0 1 2");
        check.due("no order keeps one", quarrelOf(row("012", "bbb", "b01 0", "a02 0"), 0), "1");
        check.due("no conditions", quarrelOf(row("012", "bbb"), 0), "");
        check.due("soft ones alone", quarrelOf(row("012", "bbb", "a02 1", "d01 9"), 0), "");
        check.due("nobody", quarrelOf(House.withTables("r2"), 0), "");
        check.due("one guest", quarrelOf(row("0.", "b"), 0), "");
    }

    private static void theFewest() {
        check.due("the fewest: two, not three", quarrelOf(row("0123", "bbbb", "b01 0", "b02 0", "b03 0", "n03 0"), 0),
                "2 3");
        check.due("the fewest: one, not two", quarrelOf(row("0123", "bbbb", "b01 0", "n01 0", "b23 0", "d23 0"), 0),
                "3");
        check.due("the fewest: three", quarrelOf(row("0123", "bbbb", "b01 0", "b02 0", "b03 0"), 0), "0 1 2");
        Placecard ring = row("01234", "bbbbb", "b01 0", "b12 0", "b23 0", "b34 0", "b40 0");
        check.due("the fewest: all five", quarrelOf(ring, 0), "0 1 2 3 4");
        Placecard last = row("01", "bb", "t01 0", "t01 0", "t01 0", "t01 0", "t01 0", "t01 0", "t01 0", "t01 0",
                "t01 0", "t01 0", "t01 0", "t01 0", "t01 0", "t01 0", "b01 0", "n01 0");
        check.due("the fewest: the condition 15", quarrelOf(last, 0), "15");
    }

    /** Six guests at a row, no two of these groups to sit next to each other; the condition 0 is always kept. */
    private static Placecard kept(String row, String groups) {
        Placecard house = row(row, "bbbbbb", "t01 0");
        for (int i = 0; i < 6; i++) {
            for (int j = i + 1; j < 6; j++) {
                if (groups.charAt(i) != groups.charAt(j)) {
                    house.addCondition('n', i, j, 0);
                }
            }
        }
        return house;
    }

    /** A least quarrel of more than two has at most one condition of a pair of guests, so that 15 are the most. */
    private static void asManyAsPairs() {
        check.due("the fewest of all: one alone", quarrelOf(kept("012345", "abbbbb"), 0), "1 2 3 4 5");
        check.due("the fewest of all: two and four", quarrelOf(kept("012345", "aabbbb"), 0), "1 2 3 4 5 6 7 8");
        check.due("the fewest of all: three and three", quarrelOf(kept("012345", "aaabbb"), 0), "1 2 3 4 5 6 7 8 9");
        check.due("the fewest of all: fifteen", quarrelOf(kept("01.2.3.4.5", "abcdef"), 0),
                "1 2 3 4 5 6 7 8 9 10 11 12 13 14 15");
        Placecard house = kept("01.2.3.4.5", "abcdef");
        house.drop(15, true);
        check.due("the fewest of all: fourteen leave an order", quarrelOf(house, 0), "");
        check.due("the fewest of all: fourteen leave two who may sit on two seats", house.answers(0), 48);
    }

    private static void theLowestThenTheSecond() {
        Placecard first = row("0123", "bbbb", "b01 0", "b23 0", "n23 0", "n01 0");
        check.due("of like ones the first lowest", quarrelOf(first, 0), "0 3");
        Placecard second = row("012", "bbb", "t01 0", "b01 0", "n01 0", "n10 0");
        check.due("of like ones the second lowest", quarrelOf(second, 0), "1 2");
        check.due("of like ones of one condition the lowest", quarrelOf(row("01", "bb", "t01 0", "d01 0", "d10 0"), 0),
                "1");
        Placecard third = row("0123", "bbbb", "b01 0", "b02 0", "t12 0", "b03 0", "b30 0");
        check.due("of like ones the third lowest", quarrelOf(third, 0), "0 1 3");
    }

    // ---- moves

    private static void fewestMoves() {
        check.due("moves: none", row("012", "bbb", "b01 0").moves(0), 0);
        check.due("moves: none of nobody", House.withTables("r2").moves(0), 0);
        check.due("moves: two", row("012", "bbb", "b02 0").moves(0), 2);
        check.due("moves: none, as the only order stands", row("012", "rrb", "e01 0", "e12 0").moves(0), 0);
        check.due("moves: all of three", row("120", "rrb", "e01 0", "e12 0").moves(0), 3);
        check.due("moves: soft ones aside", row("012", "bbb", "b02 9").moves(0), 0);
        Placecard held = row("012", "bbb", "b02 0");
        held.ink(0);
        check.due("moves: cards in ink held", held.moves(0), 2);
        held.ink(2);
        check.refused("moves: two cards in ink held", Check.ELEMENT, () -> held.moves(0));
        held.tear(0);
        check.due("moves: the other card in ink held", held.moves(0), 2);
    }

    private static void noHardConditionAtAll() {
        Supplier<Placecard> build = () -> {
            Placecard house = House.withTables("h2 h2 h2");
            House.invite(house, 4);
            for (int i = 0; i < 4; i++) {
                house.sit(i, i / 2, i % 2);
            }
            house.addCondition('d', 2, 3, 0);
            return house;
        };
        check.refused("no hard condition at all, one elsewhere: moves(0)", Check.ELEMENT, build, x -> x.moves(0));
        check.refused("no hard condition at all, one of the table: moves(1)", Check.ELEMENT, build, x -> x.moves(1));
        check.refused("no hard condition at all, nobody there: moves(2)", Check.ELEMENT, build, x -> x.moves(2));
        Placecard house = build.get();
        house.rise(3);
        check.due("no hard condition at all, it is not looked at", house.moves(0), 0);
        house.sit(3, 1, 1);
        house.drop(0, true);
        check.due("no hard condition at all, it is dropped", house.moves(0), 0);
    }

    // ---- "if more than 7 guests sit there", "if more than 6 guests sit there"

    /** So many at a table for ten, some of them in ink, and two at another one, who make a quarrel. */
    private static Placecard crowd(int count, int inked) {
        Placecard house = House.withTables("r10 h2");
        House.invite(house, count + 2);
        for (int i = 0; i < count; i++) {
            house.sit(i, 0, 9 - i);
        }
        for (int i = 0; i < inked; i++) {
            house.ink(i);
        }
        house.sit(count, 1, 0);
        house.sit(count + 1, 1, 1);
        house.addCondition('t', count, count + 1, 0);
        house.addCondition(count > 1 ? 't' : 'd', 0, 1, 0);
        return house;
    }

    private static void limit(String call, int most, Consumer<Placecard> run) {
        for (int inked = 0; inked <= 6; inked += 6) {
            for (int i = 1; i <= 10; i++) {
                int count = i;
                int cards = Math.min(inked, count);
                String name = call + " of " + count + " guests, " + cards + " in ink";
                if (count <= most) {
                    check.accepted(name, () -> crowd(count, cards), run);
                } else {
                    check.refused(name, Check.UNSUPPORTED, () -> crowd(count, cards), run);
                }
            }
        }
    }

    private static void sevenAndEight() {
        limit("bestBroken", 7, x -> x.bestBroken(0));
        limit("bestLoss", 7, x -> x.bestLoss(0));
        limit("bestAt", 7, x -> x.bestAt(0, 9));
        limit("arrange", 7, x -> x.arrange(0));
        limit("answers", 7, x -> x.answers(0));
        limit("isNeeded", 7, x -> x.isNeeded(0, 0));
        limit("moves", 7, x -> x.moves(0));
        Placecard house = crowd(10, 0);
        check.due("two at another table: bestBroken(1)", house.bestBroken(1), 0);
        check.due("two at another table: bestLoss(1)", house.bestLoss(1), 0);
        check.due("two at another table: bestAt(1, 1)", house.bestAt(1, 1), 11);
        check.due("two at another table: arrange(1)", house.arrange(1), 0);
        check.due("two at another table: answers(1)", house.answers(1), 2);
        check.due("two at another table: isNeeded(1, 0)", house.isNeeded(1, 0), false);
        check.due("two at another table: moves(1)", house.moves(1), 0);
    }

    private static void sixAndSeven() {
        limit("quarrel", 6, x -> x.quarrel(0));
        for (int i = 2; i <= 10; i++) {
            int count = i;
            Supplier<Placecard> build = () -> {
                Placecard house = crowd(count, 0);
                house.addCondition('d', 0, 1, 0);
                return house;
            };
            if (count <= 6) {
                check.accepted("quarrelAt of " + count, build, x -> x.quarrelAt(0, 0));
            } else {
                check.refused("quarrelAt of " + count, Check.UNSUPPORTED, build, x -> x.quarrelAt(0, 0));
            }
        }
        check.due("two at another table: quarrel(1)", crowd(10, 0).quarrel(1), 0);
    }
}
