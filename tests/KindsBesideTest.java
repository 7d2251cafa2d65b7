/** Each kind of condition, for two on each pair of seats of each table, beside every call that looks at conditions. */
public final class KindsBesideTest {
    // Of 's' the tongues of the other guest, of 'e' the ear of the first one; the first one speaks the tongue 1.
    private static final String[] KINDS = {"b", "n", "a", "t", "d", "o", "s1", "s2", "eb", "el", "er"};
    private static final int TABLE = 1;
    private static final int FREE = 0;

    private static final Check check = new Check("KindsBesideTest");

    private final String[] shape;
    private final String told;
    private final int seat;
    private final int other;
    private final boolean isKept;
    private final boolean isKeptSwapped;
    private final Placecard house;

    private KindsBesideTest(String[] shape, String told, int seat, int other) {
        this.shape = shape;
        this.told = told;
        this.seat = seat;
        this.other = other;
        isKept = keeps(seat, other);
        isKeptSwapped = keeps(other, seat);
        house = House.withTables("h3 " + shape[0]);
        house.addGuest(1, 1, 0, 1, told.charAt(0) == 'e' ? told.charAt(1) : 'b');
        house.addGuest(2, 2, 0, told.equals("s2") ? 2 : 1, 'b');
        for (int guest = 0; guest < 2; guest++) {
            house.reply(guest, true);
            house.sit(guest, TABLE, guest == 0 ? seat : other);
        }
        house.addCondition(told.charAt(0), 0, 1, 0);
        house.addCondition(told.charAt(0), 0, 1, 7);
    }

    public static void main(String[] args) {
        for (String[] shape : Shapes.ALL) {
            for (int seat = 0; seat < Shapes.seatsOf(shape); seat++) {
                for (int other = 0; other < Shapes.seatsOf(shape); other++) {
                    for (String told : KINDS) {
                        if (seat != other) {
                            new KindsBesideTest(shape, told, seat, other).go();
                        }
                    }
                }
            }
        }
        check.end();
    }

    /** What the document says of a kind, for the first guest on a seat and the other one on another. */
    private boolean keeps(int first, int second) {
        boolean areNext = Shapes.areNext(shape, first, second);
        switch (told) {
            case "b":
                return areNext;
            case "n":
                return !areNext;
            case "a":
                return Shapes.stepsFrom(shape, first)[second] >= 3;
            case "t":
                return true;
            case "d":
                return false;
            case "o":
                return Shapes.areOpposite(shape, first, second);
            case "s1":
                return true;
            case "s2":
                return !areNext;
            case "el":
                return Shapes.isRightHand(shape, second, first);
            case "er":
                return Shapes.isRightHand(shape, first, second);
            default:
                return areNext;
        }
    }

    private void due(String call, Object got, Object want) {
        check.due(told + " at " + shape[0] + " on " + seat + " and " + other + ": " + call, got, want);
    }

    private void refused(String call, Runnable run) {
        check.refused(told + " at " + shape[0] + " on " + seat + " and " + other + ": " + call, Check.ELEMENT, run);
    }

    private void go() {
        dueNow(isKept);
        dueOrders();
        dueOfFreeTable(isKept);
        dueChecksum();
        dueSwap();
        dueArrange();
        dueDropped();
        dueOneStands();
        dueUnlikeTables();
    }

    private void dueNow(boolean isNowKept) {
        due("isBroken(0)", house.isBroken(0), !isNowKept);
        due("isBroken(1)", house.isBroken(1), !isNowKept);
        due("broken()", house.broken(), isNowKept ? 0 : 1);
        due("loss()", house.loss(), isNowKept ? 0 : 7);
    }

    private int answers() {
        return (isKept ? 1 : 0) + (isKeptSwapped ? 1 : 0);
    }

    /** The guest on the lower one of the two seats by the best order. */
    private int bestOnLower() {
        boolean isKeptByLower = seat < other ? isKept : isKeptSwapped;
        boolean isKeptByHigher = seat < other ? isKeptSwapped : isKept;
        return isKeptByLower || !isKeptByHigher ? 0 : 1;
    }

    private void dueOrders() {
        due("bestBroken", house.bestBroken(TABLE), answers() > 0 ? 0 : 1);
        due("bestLoss", house.bestLoss(TABLE), answers() > 0 ? 0 : 7);
        due("bestAt of the lower seat", house.bestAt(TABLE, Math.min(seat, other)), bestOnLower());
        due("bestAt of the higher seat", house.bestAt(TABLE, Math.max(seat, other)), 1 - bestOnLower());
        due("answers", house.answers(TABLE), answers());
        due("isNeeded, the hard one", house.isNeeded(TABLE, 0), answers() < 2);
        due("isNeeded, the soft one", house.isNeeded(TABLE, 1), false);
        due("quarrel", house.quarrel(TABLE), answers() == 0 ? 1 : 0);
        if (answers() == 0) {
            due("quarrelAt", house.quarrelAt(TABLE, 0), 0);
        } else {
            refused("quarrelAt", () -> house.quarrelAt(TABLE, 0));
        }
        if (answers() == 0) {
            refused("moves", () -> house.moves(TABLE));
        } else {
            due("moves", house.moves(TABLE), isKept ? 0 : 2);
        }
    }

    /** At a table where neither guest sits, nothing can be mended. */
    private void dueOfFreeTable(boolean isNowKept) {
        due("bestBroken of a free table", house.bestBroken(FREE), isNowKept ? 0 : 1);
        due("bestLoss of a free table", house.bestLoss(FREE), isNowKept ? 0 : 7);
        due("arrange of a free table", house.arrange(FREE), 0);
        due("answers of a free table", house.answers(FREE), 1);
        due("isNeeded at a free table", house.isNeeded(FREE, 0), false);
        due("quarrel of a free table", house.quarrel(FREE), 0);
        if (isNowKept) {
            due("moves of a free table", house.moves(FREE), 0);
        } else {
            refused("moves of a free table", () -> house.moves(FREE));
        }
    }

    private void dueChecksum() {
        long sum = 7;
        for (long number : new long[] {100 * TABLE + seat, 'c', 100 * TABLE + other, 'c', isKept ? 0 : 7, 0}) {
            sum = 31 * sum + number;
        }
        due("checksum()", house.checksum(), sum);
    }

    private void dueSwap() {
        due("swap", house.swap(0, 1), !isKept && isKeptSwapped);
        dueNow(isKeptSwapped);
        due("swap back", house.swap(1, 0), isKept && !isKeptSwapped);
        dueNow(isKept);
    }

    private void dueArrange() {
        int now = seat < other ? 0 : 1;
        due("arrange", house.arrange(TABLE), now == bestOnLower() ? 0 : 2);
        due("at, the lower seat", house.at(TABLE, Math.min(seat, other)), bestOnLower());
        due("at, the higher seat", house.at(TABLE, Math.max(seat, other)), 1 - bestOnLower());
        dueNow(answers() > 0);
        due("arrange again", house.arrange(TABLE), 0);
    }

    private void dueDropped() {
        house.drop(0, true);
        due("dropped: broken()", house.broken(), 0);
        due("dropped: loss() of the other one", house.loss(), answers() > 0 ? 0 : 7);
        house.drop(1, true);
        dueFree(2);
        house.drop(0, false);
        house.drop(1, false);
        dueNow(answers() > 0);
    }

    private void dueOneStands() {
        for (int guest = 0; guest < 2; guest++) {
            int code = house.seatOf(guest);
            house.rise(guest);
            dueFree(1);
            house.sit(guest, TABLE, code % 100);
        }
        dueNow(answers() > 0);
    }

    /** Nothing is looked at: every order does. */
    private void dueFree(int orders) {
        dueNow(true);
        due("free: bestBroken", house.bestBroken(TABLE), 0);
        due("free: bestLoss", house.bestLoss(TABLE), 0);
        due("free: answers", house.answers(TABLE), orders);
        due("free: isNeeded", house.isNeeded(TABLE, 0), false);
        due("free: quarrel", house.quarrel(TABLE), 0);
        refused("free: quarrelAt", () -> house.quarrelAt(TABLE, 0));
        due("free: moves", house.moves(TABLE), 0);
    }

    /** Of two at unlike tables each has one order; neither table's own conditions are any. */
    private void dueUnlikeTables() {
        boolean isKeptApart = "nads1s2".contains(told);
        house.sit(1, FREE, 2);
        dueNow(isKeptApart);
        for (int table : new int[] {FREE, TABLE}) {
            due("apart: bestBroken", house.bestBroken(table), isKeptApart ? 0 : 1);
            due("apart: bestLoss", house.bestLoss(table), isKeptApart ? 0 : 7);
            due("apart: arrange", house.arrange(table), 0);
            due("apart: answers", house.answers(table), 1);
            due("apart: isNeeded", house.isNeeded(table, 0), false);
            due("apart: quarrel", house.quarrel(table), 0);
            refused("apart: quarrelAt", () -> house.quarrelAt(table, 0));
            if (isKeptApart) {
                due("apart: moves", house.moves(table), 0);
            } else {
                refused("apart: moves", () -> house.moves(table));
            }
        }
        due("apart: swap", house.swap(0, 1), false);
        dueNow(isKeptApart);
    }
}
