/** "Terms": the sentences on tables and guests that name a boundary case, each by a test of its own. */
public final class TermsTablesGuestsTest {
    private static final Check check = new Check("TermsTablesGuestsTest");

    public static void main(String[] args) {
        atMostSixTables();
        seatsAreNumberedFrom0();
        for (String[] table : Shapes.ALL) {
            nextToEachOther(table);
            oppositeSeats(table);
            wayIsLeastSteps(table);
            threeStepsApart(table);
            hands(table);
            tonguesOfThoseNext(table);
        }
        atMostSixteenGuests();
        comesIfFewerComeThanSeats();
        waitsWithoutTables();
        sixteenCome();
        oneComesForANo();
        noOfOthersBringsNobody();
        asManyComeAsATableHasSeats();
        allComeIfSeatsAreMore();
        noTakesFromSeat();
        noTearsTheCard();
        noTakesFromWaiting();
        yesAgainOfOneWhoComes();
        yesAgainOfOneWhoWaits();
        yesAgainOfOneWhoWaited();
        noAgain();
        noAtFirst();
        check.end();
    }

    /** Whether a condition of a kind is broken for a guest with an ear on a seat and one on another seat. */
    private static boolean isBroken(String[] table, char kind, char ear, int seat, int other) {
        Placecard house = House.withTables(table[0]);
        house.addGuest(1, 1, 0, 1, ear);
        house.addGuest(1, 1, 0, 2, 'b');
        house.reply(0, true);
        house.reply(1, true);
        house.sit(0, 0, seat);
        house.sit(1, 0, other);
        house.addCondition(kind, 0, 1, 0);
        return house.isBroken(0);
    }

    /** Looks at a kind for all pairs of seats: the condition must be kept where the pair is in the text. */
    private static void duePairs(String sentence, String[] table, char kind, char ear, String kept) {
        for (int seat = 0; seat < Shapes.seatsOf(table); seat++) {
            for (int other = 0; other < Shapes.seatsOf(table); other++) {
                if (seat != other) {
                    check.due(sentence + ": " + table[0] + " '" + kind + "' by ear " + ear + " on " + seat + ", "
                            + other, isBroken(table, kind, ear, seat, other), !Shapes.has(kept, seat, other));
                }
            }
        }
    }

    private static String allBut(String[] table, String pairs) {
        StringBuilder text = new StringBuilder();
        for (int seat = 0; seat < Shapes.seatsOf(table); seat++) {
            for (int other = 0; other < Shapes.seatsOf(table); other++) {
                text.append(Shapes.has(pairs, seat, other) ? "" : " " + seat + other);
            }
        }
        return text.toString().trim();
    }

    // ---- Tables

    private static void atMostSixTables() {
        Placecard house = new Placecard();
        for (int i = 0; i < 6; i++) {
            check.due("At most 6 are numbered from 0", house.addTable("rhl".charAt(i % 3), 2), i);
        }
        check.refused("At most 6", Check.STATE, () -> House.withTables("r2 h2 l2 r2 h2 l2"), x -> x.addTable('r', 2));
        check.due("At most 6, the fifth", House.withTables("r2 h2 l2 r2").addTable('h', 10), 4);
    }

    private static void seatsAreNumberedFrom0() {
        for (String[] table : Shapes.ALL) {
            Placecard house = House.withTables(table[0]);
            House.invite(house, Shapes.seatsOf(table));
            check.due("2 to 10 seats: coming() at " + table[0], house.coming(), Shapes.seatsOf(table));
            for (int seat = 0; seat < Shapes.seatsOf(table); seat++) {
                check.due("seats numbered from 0: " + table[0], house.sit(seat, 0, seat), seat + 1);
                check.due("seats numbered from 0: " + table[0], house.at(0, seat), seat);
            }
        }
    }

    private static void nextToEachOther(String[] table) {
        duePairs("Next to each other", table, 'b', 'b', Shapes.bothWays(table[1]));
        duePairs("Next to each other", table, 'n', 'b', allBut(table, Shapes.bothWays(table[1])));
    }

    private static void oppositeSeats(String[] table) {
        duePairs("opposite to the one that is half of the seats later", table, 'o', 'b', Shapes.bothWays(table[2]));
    }

    private static void wayIsLeastSteps(String[] table) {
        Placecard house = House.withTables("l2 " + table[0] + " h2");
        for (int seat = 0; seat < Shapes.seatsOf(table); seat++) {
            int[] steps = Shapes.stepsFrom(table, seat);
            for (int other = 0; other < steps.length; other++) {
                check.due("the least number of steps: " + table[0] + " way(1, " + seat + ", " + other + ")",
                        house.way(1, seat, other), steps[other]);
            }
        }
    }

    private static void threeStepsApart(String[] table) {
        StringBuilder far = new StringBuilder();
        for (int seat = 0; seat < Shapes.seatsOf(table); seat++) {
            int[] steps = Shapes.stepsFrom(table, seat);
            for (int other = 0; other < steps.length; other++) {
                far.append(steps[other] >= 3 ? " " + seat + other : "");
            }
        }
        duePairs("3 steps apart or more", table, 'a', 'b', far.toString().trim());
    }

    // ---- Guests

    private static void hands(String[] table) {
        duePairs("A seat's right hand", table, 'e', 'r', table[3]);
        duePairs("its left hand is the seat of which it is the right hand", table, 'e', 'l', Shapes.reversed(table[3]));
        duePairs("both hands", table, 'e', 'b', Shapes.bothWays(table[3]));
    }

    private static void tonguesOfThoseNext(String[] table) {
        duePairs("with a tongue in common if they are next", table, 's', 'b', allBut(table, Shapes.bothWays(table[1])));
    }

    private static void atMostSixteenGuests() {
        Placecard house = new Placecard();
        for (int i = 0; i < 16; i++) {
            check.due("At most 16 guests are numbered from 0", house.addGuest(i, i, 0, 1, 'b'), i);
            check.due("who is invited", house.stateOf(i), 'i');
        }
        check.refused("At most 16 guests", Check.STATE, () -> {
            Placecard full = new Placecard();
            House.invite(full, 16);
            return full;
        }, x -> x.addGuest(0, 0, 0, 1, 'b'));
    }

    private static void comesIfFewerComeThanSeats() {
        Placecard house = House.withTables("l2 r2 h3");
        for (int i = 0; i < 9; i++) {
            house.addGuest(1, 1, 0, 1, 'b');
            check.due("comes, if fewer come than there are seats: " + i + " of 7", house.reply(i, true),
                    i < 7 ? 'c' : 'w');
            check.due("coming() after " + i, house.coming(), Math.min(i + 1, 7));
        }
    }

    private static void waitsWithoutTables() {
        Placecard house = new Placecard();
        house.addGuest(1, 1, 0, 1, 'b');
        check.due("otherwise the guest waits: no table", house.reply(0, true), 'w');
        check.due("otherwise the guest waits: no table", house.coming(), 0);
    }

    private static void sixteenCome() {
        Placecard house = House.withTables("r10 h6");
        House.invite(house, 16);
        check.due("sixteen come to sixteen seats", house.coming(), 16);
        check.due("sixteen come to sixteen seats", house.stateOf(15), 'c');
        Placecard less = House.withTables("r10 h5");
        House.invite(less, 16);
        check.due("fifteen come to fifteen seats", less.coming(), 15);
        check.due("fifteen come to fifteen seats", less.stateOf(15), 'w');
        Placecard more = House.withTables("r10 h10 l10 r10 h10 l10");
        House.invite(more, 16);
        check.due("sixteen come to sixty seats", more.coming(), 16);
    }

    /** Who waits, in order. */
    private static String queueOf(Placecard house) {
        StringBuilder text = new StringBuilder();
        for (int i = 0; i < 16; i++) {
            try {
                text.append(house.waiting(i)).append(' ');
            } catch (RuntimeException e) {
                return text.toString().trim();
            }
        }
        return text.toString().trim();
    }

    /** Two come, who sit; four wait, and one is invited. */
    private static Placecard fourWait() {
        Placecard house = House.seated('h', 0, 1);
        House.invite(house, 4);
        house.addGuest(1, 1, 0, 1, 'b');
        return house;
    }

    private static void oneComesForANo() {
        Placecard house = fourWait();
        check.due("who waits", queueOf(house), "2 3 4 5");
        house.reply(1, false);
        check.due("one who comes says no: who waits longest", house.stateOf(2), 'c');
        check.due("one who comes says no: the others", queueOf(house), "3 4 5");
        check.due("one who comes says no: coming()", house.coming(), 2);
        house.reply(1, true);
        check.due("who said no waits behind the others", queueOf(house), "3 4 5 1");
        house.reply(2, false);
        check.due("one who comes says no again", queueOf(house), "4 5 1");
    }

    private static void noOfOthersBringsNobody() {
        Placecard house = fourWait();
        house.reply(6, false);
        check.due("a no of one invited", queueOf(house), "2 3 4 5");
        house.reply(3, false);
        check.due("a no of one who waits", queueOf(house), "2 4 5");
        house.reply(3, false);
        check.due("a no of one who said it", queueOf(house), "2 4 5");
        check.due("coming() after them", house.coming(), 2);
    }

    private static void asManyComeAsATableHasSeats() {
        Placecard house = fourWait();
        house.addTable('l', 2);
        check.due("a table is added: as far as there are seats", queueOf(house), "4 5");
        check.due("a table is added: who waited longest", house.stateOf(3), 'c');
        check.due("a table is added: coming()", house.coming(), 4);
        house.addTable('h', 2);
        check.due("a table is added, just enough", queueOf(house), "");
        check.due("a table is added, just enough", house.coming(), 6);
        check.due("all seats taken, one more", house.reply(6, true), 'w');
    }

    private static void allComeIfSeatsAreMore() {
        Placecard house = fourWait();
        house.addTable('r', 5);
        check.due("a table with a seat more than wait", queueOf(house), "");
        check.due("a table with a seat more than wait", house.coming(), 6);
        check.due("the seat that is left", house.reply(6, true), 'c');
        Placecard none = House.seated('r', 0, 1, -1);
        none.addTable('h', 2);
        check.due("a table is added and nobody waits", none.coming(), 2);
    }

    private static void noTakesFromSeat() {
        Placecard house = fourWait();
        house.reply(1, false);
        check.refused("A no takes from a seat: seatOf(1)", Check.ELEMENT, () -> house.seatOf(1));
        check.refused("A no takes from a seat: at(0, 1)", Check.ELEMENT, () -> house.at(0, 1));
        check.due("A no takes from a seat: seatOf(0) stays", house.seatOf(0), 0);
        check.refused("who comes for it does not sit there", Check.ELEMENT, () -> house.seatOf(2));
        check.due("the seat is free", house.sit(2, 0, 1), 2);
    }

    private static void noTearsTheCard() {
        Placecard house = House.seated('h', 0, 1, 2);
        house.ink(0);
        house.ink(1);
        house.reply(1, false);
        check.refused("A no tears the card: tear(1)", Check.UNSUPPORTED, () -> house.tear(1));
        house.reply(1, true);
        house.sit(1, 0, 1);
        check.due("A no tears the card: ink(1) anew", house.ink(1), 2);
        check.due("A no tears no other card", house.tear(0), 1);
    }

    private static void noTakesFromWaiting() {
        String[] left = {"3 4 5", "2 4 5", "2 3 5", "2 3 4"};
        for (int i = 0; i < 4; i++) {
            Placecard house = fourWait();
            check.due("A no takes from waiting", house.reply(2 + i, false), 'n');
            check.due("A no takes from waiting: " + (2 + i), queueOf(house), left[i]);
            house.addTable('h', 4);
            check.due("who is taken from waiting does not come", house.stateOf(2 + i), 'n');
        }
    }

    private static void yesAgainOfOneWhoComes() {
        Placecard house = fourWait();
        house.ink(0);
        check.due("the reply given before: yes of one who comes", house.reply(0, true), 'c');
        check.due("it changes no seat", house.seatOf(0), 0);
        check.refused("it tears no card", Check.UNSUPPORTED, () -> house.rise(0));
        check.due("it changes nobody else", queueOf(house), "2 3 4 5");
    }

    private static void yesAgainOfOneWhoWaits() {
        Placecard house = fourWait();
        check.due("the reply given before: yes of one who waits", house.reply(2, true), 'w');
        check.due("it changes no place", queueOf(house), "2 3 4 5");
        house.reply(0, false);
        house.reply(2, true);
        house.reply(4, true);
        check.due("it changes no place, nor doubles one", queueOf(house), "3 4 5");
    }

    private static void yesAgainOfOneWhoWaited() {
        Placecard house = fourWait();
        house.addTable('h', 3);
        house.sit(2, 1, 2);
        check.due("the reply given before: yes of one who waited and comes", house.reply(2, true), 'c');
        check.due("it changes no seat", house.seatOf(2), 102);
        check.due("it changes nobody else", queueOf(house), "5");
    }

    private static void noAgain() {
        Placecard house = fourWait();
        house.reply(0, false);
        check.due("the reply given before: no", house.reply(0, false), 'n');
        check.due("it brings nobody more", queueOf(house), "3 4 5");
        check.due("it brings nobody more", house.coming(), 2);
    }

    private static void noAtFirst() {
        Placecard house = fourWait();
        check.due("a no of one who is invited", house.reply(6, false), 'n');
        check.due("a yes after it", house.reply(6, true), 'w');
        check.due("a yes after it", queueOf(house), "2 3 4 5 6");
    }
}
