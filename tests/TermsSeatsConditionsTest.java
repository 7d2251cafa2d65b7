import java.util.function.Supplier;

/** "Terms": the sentences on seats, cards and conditions that name a boundary case, each by a test of its own. */
public final class TermsSeatsConditionsTest {
    private static final Check check = new Check("TermsSeatsConditionsTest");

    public static void main(String[] args) {
        putOntoAFreeSeat();
        alsoFromAnotherSeat();
        notOntoATakenSeat();
        whoDoesNotCome();
        inkHoldsOnTheSeat();
        inkHoldsInOrders();
        tillItIsTorn();
        inkOfOneHoldsNoOther();
        atMostSixteenConditions();
        hardOrSoft();
        atUnlikeTables();
        atOneTable();
        tongueInCommon();
        earsOfTheFirst();
        lookedAtIfBothSit();
        droppedIsLookedAtNoMore();
        droppedInOrders();
        takenUpAgain();
        lossIsTheSum();
        check.end();
    }

    // ---- Seats

    private static void putOntoAFreeSeat() {
        Placecard house = House.withTables("l2 r10");
        House.invite(house, 12);
        check.due("onto a free seat, the first one of all", house.sit(11, 0, 0), 1);
        check.due("onto a free seat, the last one left", house.sit(0, 0, 1), 2);
        for (int i = 1; i <= 10; i++) {
            check.due("onto a free seat of ten", house.sit(i, 1, 10 - i), i);
        }
        check.due("seatOf(1), the last seat", house.seatOf(1), 109);
        check.due("seatOf(10), the first seat", house.seatOf(10), 100);
        check.due("seatOf(11)", house.seatOf(11), 0);
    }

    private static void alsoFromAnotherSeat() {
        Placecard house = House.withTables("h3 h3");
        House.invite(house, 2);
        house.sit(0, 0, 0);
        house.sit(1, 0, 1);
        check.due("from another seat of the table", house.sit(0, 0, 2), 2);
        check.refused("the seat left is free", Check.ELEMENT, () -> house.at(0, 0));
        check.due("from a seat of another table", house.sit(0, 1, 2), 1);
        check.refused("the seat left is free", Check.ELEMENT, () -> house.at(0, 2));
        check.due("onto the seat left", house.sit(1, 0, 2), 1);
        check.due("back to where it was", house.sit(0, 0, 0), 2);
        check.refused("the table left is free", Check.ARITHMETIC, () -> house.meanRank(1));
    }

    private static void notOntoATakenSeat() {
        Supplier<Placecard> build = () -> House.seated('h', 0, 1, -1);
        check.refused("a free seat: another one sits there", Check.UNSUPPORTED, build, x -> x.sit(0, 0, 1));
        check.refused("a free seat: the guest sits there", Check.UNSUPPORTED, build, x -> x.sit(0, 0, 0));
    }

    private static void whoDoesNotCome() {
        Supplier<Placecard> build = () -> {
            Placecard house = House.withTables("h2");
            House.invite(house, 3);
            house.addGuest(1, 1, 0, 1, 'b');
            house.reply(0, false);
            return house;
        };
        check.accepted("A guest who comes, late: sit(2, 0, 0)", build, x -> x.sit(2, 0, 0));
        check.refused("A guest who comes, not one of a no", Check.UNSUPPORTED, build, x -> x.sit(0, 0, 0));
        check.refused("A guest who comes, not one invited", Check.UNSUPPORTED, build, x -> x.sit(3, 0, 0));
        check.refused("A guest who comes, not one who waits", Check.UNSUPPORTED, () -> {
            Placecard house = build.get();
            house.reply(0, true);
            return house;
        }, x -> x.sit(0, 0, 0));
    }

    /** At a row: 2 1 0 and a free seat; the guest 1 in ink, 0 and 1 not to sit next to each other. */
    private static Placecard inked() {
        Placecard house = House.seated('h', 2, 1, 0, -1);
        house.addCondition('n', 0, 1, 5);
        house.ink(1);
        return house;
    }

    private static void inkHoldsOnTheSeat() {
        Supplier<Placecard> build = TermsSeatsConditionsTest::inked;
        check.refused("A card in ink holds: sit(1, 0, 3)", Check.UNSUPPORTED, build, x -> x.sit(1, 0, 3));
        check.refused("A card in ink holds: rise(1)", Check.UNSUPPORTED, build, x -> x.rise(1));
        check.refused("A card in ink holds: swap(1, 0)", Check.UNSUPPORTED, build, x -> x.swap(1, 0));
        check.refused("A card in ink holds: swap(0, 1)", Check.UNSUPPORTED, build, x -> x.swap(0, 1));
        check.refused("A card in ink holds: ink(1)", Check.UNSUPPORTED, build, x -> x.ink(1));
    }

    private static void inkHoldsInOrders() {
        Placecard house = inked();
        check.due("A card in ink holds: bestLoss(0)", house.bestLoss(0), 5);
        check.due("A card in ink holds: bestAt(0, 1)", house.bestAt(0, 1), 1);
        check.due("A card in ink holds: arrange(0)", house.arrange(0), 2);
        check.due("A card in ink holds: at(0, 1)", house.at(0, 1), 1);
        check.due("A card in ink holds: at(0, 0)", house.at(0, 0), 0);
        house.addCondition('n', 0, 1, 0);
        check.refused("A card in ink holds: moves(0)", Check.ELEMENT, () -> house.moves(0));
    }

    private static void tillItIsTorn() {
        Placecard house = inked();
        check.due("till it is torn: tear(1)", house.tear(1), 0);
        check.due("till it is torn: bestLoss(0)", house.bestLoss(0), 0);
        check.due("till it is torn: sit(1, 0, 3)", house.sit(1, 0, 3), 3);
        check.due("till it is torn: swap(1, 0)", house.swap(1, 0), false);
        check.due("till it is torn: rise(1)", house.rise(1), 0);
        check.refused("a torn card cannot be torn", Check.UNSUPPORTED, () -> house.tear(1));
    }

    private static void inkOfOneHoldsNoOther() {
        Placecard house = inked();
        check.due("the others move: sit(0, 0, 3)", house.sit(0, 0, 3), 3);
        check.due("the others move: swap(0, 2)", house.swap(0, 2), false);
        check.due("the others move: rise(0)", house.rise(0), 0);
        check.due("the others get a card: ink(2)", house.ink(2), 2);
        Placecard all = House.withTables("r10 h6");
        House.invite(all, 16);
        for (int i = 0; i < 16; i++) {
            all.sit(i, i / 10, i % 10);
            check.due("how many cards are in ink", all.ink(i), i + 1);
        }
        for (int i = 0; i < 16; i++) {
            check.due("how many cards are in ink", all.tear(i), 15 - i);
        }
    }

    // ---- Conditions

    private static void atMostSixteenConditions() {
        Supplier<Placecard> sixteen = () -> {
            Placecard house = House.seated('h', 0, 1);
            for (int i = 0; i < 16; i++) {
                check.due("At most 16 conditions are numbered from 0", house.addCondition('d', 0, 1, i % 10), i);
            }
            return house;
        };
        check.refused("At most 16 conditions", Check.STATE, sixteen, x -> x.addCondition('d', 0, 1, 0));
        check.refused("At most 16 conditions, dropped ones too", Check.STATE, () -> {
            Placecard house = sixteen.get();
            house.drop(0, true);
            house.drop(15, true);
            return house;
        }, x -> x.addCondition('d', 0, 1, 9));
        Placecard house = sixteen.get();
        check.due("the last one is broken", house.isBroken(15), true);
        check.due("the hard ones of sixteen", house.broken(), 2);
        check.due("the soft ones of sixteen", house.loss(), 45 + 15);
    }

    private static void hardOrSoft() {
        for (int weight = 0; weight <= 9; weight++) {
            Placecard house = House.seated('h', 0, 1);
            house.addCondition('d', 0, 1, weight);
            check.due("a weight of " + weight + ": broken()", house.broken(), weight == 0 ? 1 : 0);
            check.due("a weight of " + weight + ": loss()", house.loss(), weight);
            check.due("a weight of " + weight + ": isBroken(0)", house.isBroken(0), true);
            check.due("a weight of " + weight + ": answers(0)", house.answers(0), weight == 0 ? 0 : 2);
            check.due("a weight of " + weight + ": quarrel(0)", house.quarrel(0), weight == 0 ? 1 : 0);
        }
    }

    /** The kinds that are broken for the guests 0 and 1 on these seats, given as seatOf() tells them. */
    private static String brokenKinds(int seat, int other) {
        Placecard house = House.withTables("l8 l8");
        House.invite(house, 2);
        house.sit(0, seat / 100, seat % 100);
        house.sit(1, other / 100, other % 100);
        StringBuilder text = new StringBuilder();
        String kinds = "bnatdose";
        for (int i = 0; i < kinds.length(); i++) {
            house.addCondition(kinds.charAt(i), 0, 1, 0);
            text.append(house.isBroken(i) ? kinds.charAt(i) : '.');
        }
        return text.toString();
    }

    private static void atUnlikeTables() {
        check.due("at unlike tables, like seats", brokenKinds(0, 100), "b..t.o.e");
        check.due("at unlike tables, as next to each other", brokenKinds(1, 100), "b..t.o.e");
        check.due("at unlike tables, as opposite", brokenKinds(104, 0), "b..t.o.e");
    }

    private static void atOneTable() {
        check.due("at one table, next to each other", brokenKinds(0, 1), ".na.do..");
        check.due("at one table, opposite", brokenKinds(0, 4), "b.a.d..e");
        check.due("at one table, 2 steps apart", brokenKinds(0, 2), "b.a.do.e");
        check.due("at one table, 3 steps apart", brokenKinds(0, 3), "b...do.e");
        check.due("at one table, 4 steps apart", brokenKinds(0, 7), "b...do.e");
        check.due("at one table, the halves' ends", brokenKinds(3, 4), "b...do.e");
        check.due("at one table, the halves' ends", brokenKinds(104, 103), "b...do.e");
    }

    private static void tongueInCommon() {
        int[][] tongues = {{1, 1, 0}, {16, 16, 0}, {1, 2, 1}, {15, 16, 1}, {31, 16, 0}, {31, 1, 0}, {21, 10, 1},
            {17, 24, 0}};
        for (int[] row : tongues) {
            Placecard house = House.withTables("h2");
            house.addGuest(1, 1, 0, row[0], 'b');
            house.addGuest(1, 1, 0, row[1], 'b');
            house.reply(0, true);
            house.reply(1, true);
            house.sit(0, 0, 0);
            house.sit(1, 0, 1);
            house.addCondition('s', 0, 1, 1);
            check.due("a tongue in common of " + row[0] + " and " + row[1], house.loss(), row[2]);
        }
    }

    private static void earsOfTheFirst() {
        Placecard house = House.withTables("h2");
        house.addGuest(1, 1, 0, 1, 'r');
        house.addGuest(1, 1, 0, 1, 'l');
        house.reply(0, true);
        house.reply(1, true);
        house.addCondition('e', 0, 1, 0);
        house.addCondition('e', 1, 0, 0);
        house.sit(0, 0, 0);
        house.sit(1, 0, 1);
        check.due("the ear of the first one: at its right hand", house.isBroken(0), false);
        check.due("the ear of the first one, told the other way round", house.isBroken(1), false);
        house.swap(0, 1);
        check.due("the ear of the first one: at its left hand", house.isBroken(0), true);
        check.due("the ear of the first one, told the other way round", house.isBroken(1), true);
    }

    private static void lookedAtIfBothSit() {
        for (char kind : new char[] {'b', 't', 'd', 'o', 'e', 'a'}) {
            Placecard house = House.withTables("h3 h3");
            House.invite(house, 2);
            house.addCondition(kind, 0, 1, 0);
            check.due("looked at if both sit, none does: " + kind, house.isBroken(0), false);
            house.sit(0, 0, 0);
            check.due("looked at if both sit, the first one does: " + kind, house.broken(), 0);
            house.sit(1, kind == 'd' || kind == 'a' ? 0 : 1, 2);
            check.due("looked at if both sit, both do: " + kind, house.broken(), 1);
            house.rise(0);
            check.due("looked at if both sit, the other one does: " + kind, house.isBroken(0), false);
            house.sit(0, 0, 0);
            check.due("looked at if both sit, both again: " + kind, house.isBroken(0), true);
            house.reply(1, false);
            check.due("looked at if both sit, after a no: " + kind, house.isBroken(0), false);
        }
    }

    /** Three of a row, two hard conditions and two soft ones that are broken in each order. */
    private static Placecard spoilt() {
        Placecard house = House.seated('h', 0, 1, 2);
        house.addCondition('d', 0, 1, 0);
        house.addCondition('d', 1, 2, 0);
        house.addCondition('d', 0, 1, 4);
        house.addCondition('d', 1, 2, 3);
        return house;
    }

    private static void droppedIsLookedAtNoMore() {
        Placecard house = spoilt();
        check.due("not dropped: broken()", house.broken(), 2);
        check.due("not dropped: loss()", house.loss(), 7);
        long sum = house.checksum();
        house.drop(0, true);
        check.due("dropped: isBroken(0)", house.isBroken(0), false);
        check.due("dropped: isBroken(1) stays", house.isBroken(1), true);
        check.due("dropped: broken()", house.broken(), 1);
        check.due("dropped: loss() stays", house.loss(), 7);
        house.drop(2, true);
        check.due("dropped: loss()", house.loss(), 3);
        check.due("dropped: checksum()", house.checksum(), sum - 4 * 31);
        house.rise(0);
        house.sit(0, 0, 0);
        check.due("dropped it stays as one sits anew", house.isBroken(0), false);
    }

    private static void droppedInOrders() {
        Placecard house = spoilt();
        house.drop(0, true);
        house.drop(3, true);
        check.due("dropped: bestBroken(0)", house.bestBroken(0), 1);
        check.due("dropped: bestLoss(0)", house.bestLoss(0), 4);
        check.due("dropped: quarrel(0)", house.quarrel(0), 1);
        check.due("dropped: quarrelAt(0, 0)", house.quarrelAt(0, 0), 1);
        check.due("dropped: isNeeded(0, 0)", house.isNeeded(0, 0), false);
        check.due("dropped: isNeeded(0, 1)", house.isNeeded(0, 1), true);
        check.due("one is not dropped: answers(0)", house.answers(0), 0);
        check.refused("one is not dropped: moves(0)", Check.ELEMENT, () -> house.moves(0));
        house.drop(1, true);
        check.due("all dropped: answers(0)", house.answers(0), 6);
        check.due("all dropped: quarrel(0)", house.quarrel(0), 0);
        check.due("all dropped: moves(0)", house.moves(0), 0);
    }

    private static void takenUpAgain() {
        Placecard house = spoilt();
        check.due("drop(1, false) of one that was not", house.drop(1, false), false);
        check.due("drop(1, true) of one that was not", house.drop(1, true), false);
        check.due("drop(1, true) of one that was", house.drop(1, true), true);
        check.due("broken() without it", house.broken(), 1);
        check.due("drop(1, false) of one that was", house.drop(1, false), true);
        check.due("drop(1, false) of one that was not", house.drop(1, false), false);
        check.due("broken() with it", house.broken(), 2);
        check.due("isBroken(1)", house.isBroken(1), true);
    }

    private static void lossIsTheSum() {
        Placecard house = House.seated('h', 0, 1);
        check.due("the loss without conditions", house.loss(), 0);
        for (int i = 0; i < 16; i++) {
            house.addCondition('d', 0, 1, 9);
            check.due("the sum of weights of soft conditions", house.loss(), 9 * i + 9);
        }
        check.due("bestLoss(0) of all", house.bestLoss(0), 144);
        check.due("no hard ones", house.broken(), 0);
        Placecard hard = House.seated('h', 0, 1);
        for (int i = 0; i < 16; i++) {
            hard.addCondition('d', 0, 1, 0);
            check.due("hard conditions have no loss", hard.loss(), 0);
            check.due("hard conditions are counted", hard.broken(), i + 1);
        }
        check.due("bestBroken(0) of all", hard.bestBroken(0), 16);
        check.due("swap(0, 1) as the loss is none", hard.swap(0, 1), false);
    }
}
