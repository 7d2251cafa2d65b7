/** The sentences of "Terms" on what the house is, and of tables and guests, each beside the calls that it speaks of. */
final class TablesGuestsSentences {
    private final Sentences sentences;

    private TablesGuestsSentences(Sentences sentences) {
        this.sentences = sentences;
    }

    static void all(Sentences sentences) {
        TablesGuestsSentences part = new TablesGuestsSentences(sentences);
        part.theWholeEvening();
        part.sixTables();
        part.nextToEachOther();
        part.opposite();
        part.theWay();
        part.sixteenGuests();
        part.hands();
        part.invited();
        part.aYes();
        part.thoseWhoWaitLongest();
        part.aNo();
        part.theReplyGivenBefore();
    }

    private void theWholeEvening() {
        sentences.hold("Guests reply, wait for a place, and go to seats", Sentences.EVENING + """
                coming() = 5; waiting(0) = 5; waiting(1) = 6; waiting(2) = throws.NoSuchElementException;
                stateOf(0) = 'c'; stateOf(4) = 'c'; stateOf(5) = 'w'; stateOf(6) = 'w'; stateOf(7) = 'i';
                seatOf(0) = 0; seatOf(1) = 1; seatOf(2) = 2; seatOf(3) = 100;
                seatOf(4) = throws.NoSuchElementException; at(0, 0) = 0; at(0, 1) = 1; at(0, 2) = 2; at(1, 0) = 3;
                at(1, 1) = throws.NoSuchElementException;
                isBroken(0) = false; isBroken(1) = true; isBroken(2) = true; isBroken(3) = true;
                broken() = 1; loss() = 7;
                bestBroken(0) = 1; bestLoss(0) = 7; bestAt(0, 0) = 0; bestAt(0, 1) = 1; bestAt(0, 2) = 2;
                arrange(0) = 0;
                bestBroken(1) = 1; bestLoss(1) = 7; bestAt(1, 0) = 3; bestAt(1, 1) = throws.NoSuchElementException;
                arrange(1) = 0; answers(0) = 0; answers(1) = 1;
                isNeeded(0, 0) = false; isNeeded(0, 1) = true; isNeeded(0, 2) = false; isNeeded(0, 3) = false;
                isNeeded(1, 1) = false; quarrel(0) = 1; quarrelAt(0, 0) = 1;
                quarrelAt(0, 1) = throws.NoSuchElementException; quarrel(1) = 0;
                quarrelAt(1, 0) = throws.NoSuchElementException;
                moves(0) = throws.NoSuchElementException; moves(1) = throws.NoSuchElementException;
                faults(0, 0) = 1; faults(0, 1) = 2; faults(0, 2) = 0; faults(1, 0) = 0; faults(1, 1) = 0;
                dishes(0) = 2; dishes(1) = 2; dishes(2) = 1; dishes(3) = 0; dishes(4) = 0; without() = 0;
                met(0, 1) = 1; met(1, 2) = 1; met(0, 2) = 1; met(1, 3) = 0; met(0, 7) = 0; unmet() = 7;
                seatedShare() = 4/5; meanRank(0) = 160/3; meanRank(1) = 10.0; isSound() = true;
                """ + Sentences.sum(0, 'c', 1, 'c', 2, 'c', 100, 'c', -1, 'c', -1, 'w', -1, 'w', -1, 'i', 7, 1));
    }

    // ---- Tables

    private void sixTables() {
        String bounds = "throws.IndexOutOfBoundsException";
        String element = "throws.NoSuchElementException";
        String six = """
                addTable('r', 2) = 0; addTable('h', 10) = 1; addTable('l', 4) = 2; addTable('r', 10) = 3;
                addTable('h', 2) = 4; addTable('l', 10) = 5; addTable('r', 2) = throws.IllegalStateException;
                """ + Sentences.TWO + "sit(0, 5, 9) = 1; sit(1, 0, 0) = 1; addCondition('d', 0, 1, 0) = 0; ";
        sentences.hold("At most 6 are numbered from 0, each round 'r'", six + """
                way(0, 0, 1) = 1; way(1, 0, 9) = 9; way(2, 0, 3) = 2; way(3, 0, 9) = 1; way(4, 0, 1) = 1;
                way(5, 0, 9) = 5;
                seatOf(0) = 509; at(5, 9) = 0; bestAt(5, 9) = 0; bestBroken(5) = 0; bestLoss(5) = 0; arrange(5) = 0;
                answers(5) = 1; isNeeded(5, 0) = false; quarrel(5) = 0; moves(5) = 0; faults(5, 0) = 0;
                meanRank(5) = 1.0; meanRank(0) = 2.0;
                """ + "way(6, 0, 0) = " + bounds + "; at(6, 0) = " + bounds + "; sit(0, 6, 0) = " + bounds
                + "; bestAt(6, 0) = " + bounds + "; bestBroken(6) = " + bounds + "; bestLoss(6) = " + bounds
                + "; arrange(6) = " + bounds + "; answers(6) = " + bounds + "; isNeeded(6, 0) = " + bounds
                + "; quarrel(6) = " + bounds + "; quarrelAt(6, 0) = " + bounds + "; moves(6) = " + bounds
                + "; faults(6, 0) = " + bounds + "; meanRank(6) = " + bounds + "; rise(0) = 5");
        sentences.hold("with 2 to 10 seats, numbered from 0",
                six + "way(5, 0, 10) = " + element + "; way(5, -1, 0) = " + element
                + "; way(0, 2, 0) = " + element + "; sit(0, 5, 10) = " + element + "; sit(0, 0, 2) = " + element
                + "; at(5, 10) = " + element + "; at(0, 2) = " + element + "; bestAt(5, 10) = " + element
                + "; bestAt(0, 2) = " + element + "; sit(0, 3, 9) = 1; sit(0, 1, 9) = 1; sit(0, 2, 3) = 1;"
                + " sit(0, 4, 1) = 1; sit(0, 0, 1) = 2");
        sentences.hold("a long one has an even number of them", """
                addTable('l', 3) = throws.IllegalArgumentException; addTable('l', 9) = throws.IllegalArgumentException;
                addTable('r', 1) = throws.IllegalArgumentException; addTable('h', 11) = throws.IllegalArgumentException;
                addTable('r', 3) = 0; addTable('h', 9) = 1; addTable('l', 8) = 2
                """);
    }

    // Of two guests, 'n' hard and 'b' soft: all answers where they are next to each other, and where they are not.
    private static String dueNext(int table) {
        return "isBroken(0) = true; isBroken(1) = false; broken() = 1; loss() = 0; bestBroken(T) = 1; bestLoss(T) = 0;"
                .replace("T", "" + table) + """
                answers(T) = 0; isNeeded(T, 0) = true; isNeeded(T, 1) = false; quarrel(T) = 1; quarrelAt(T, 0) = 0;
                moves(T) = throws.NoSuchElementException; swap(0, 1) = false; broken() = 1; swap(0, 1) = false;
                """.replace("T", "" + table);
    }

    private static String dueApart(int table) {
        return "isBroken(0) = false; isBroken(1) = true; broken() = 0; loss() = 5; bestBroken(T) = 0; bestLoss(T) = 5;"
                .replace("T", "" + table) + """
                answers(T) = 2; isNeeded(T, 0) = false; isNeeded(T, 1) = false; quarrel(T) = 0;
                quarrelAt(T, 0) = throws.NoSuchElementException; moves(T) = 0; swap(0, 1) = false; loss() = 5;
                swap(0, 1) = false;
                """.replace("T", "" + table);
    }

    private void nextToEachOther() {
        String kinds = Sentences.TWO + "addCondition('n', 0, 1, 0) = 0; addCondition('b', 0, 1, 5) = 1; ";
        sentences.hold("seats whose numbers differ by 1", "addTable('r', 6) = 0; addTable('h', 6) = 1; " + kinds
                + "sit(0, 0, 2) = 1; sit(1, 0, 3) = 2; " + dueNext(0) + "sit(1, 0, 4) = 2; " + dueApart(0)
                + "sit(0, 1, 5) = 1; sit(1, 1, 4) = 2; " + dueNext(1) + "sit(1, 1, 3) = 2; " + dueApart(1));
        sentences.hold("the first and the last, too, if there are 3 or more",
                "addTable('r', 3) = 0; addTable('h', 3) = 1; "
                + kinds + "sit(0, 0, 0) = 1; sit(1, 0, 2) = 2; way(0, 0, 2) = 1; " + dueNext(0)
                + "sit(0, 1, 0) = 1; sit(1, 1, 2) = 2; way(1, 0, 2) = 2; " + dueApart(1));
        sentences.hold("not the last seat of the first half and the first one of the second half",
                "addTable('l', 4) = 0; addTable('l', 8) = 1; " + kinds
                + "sit(0, 0, 1) = 1; sit(1, 0, 2) = 2; " + dueApart(0) + "sit(0, 0, 3) = 2; " + dueNext(0)
                + "sit(0, 1, 3) = 1; sit(1, 1, 4) = 2; " + dueApart(1) + "sit(0, 1, 5) = 2; " + dueNext(1)
                + "sit(0, 1, 0) = 2; " + dueApart(1) + "sit(0, 1, 7) = 2; " + dueApart(1));
    }

    private void opposite() {
        sentences.hold("a seat of the first half is opposite to the one that is half of the seats later",
                "addTable('l', 6) = 0; addTable('r', 6) = 1; addTable('l', 2) = 2; " + Sentences.TWO + """
                addCondition('o', 0, 1, 0) = 0; addCondition('o', 1, 0, 5) = 1;
                sit(0, 0, 1) = 1; sit(1, 0, 4) = 2; way(0, 1, 4) = 1; isBroken(0) = false; isBroken(1) = false;
                broken() = 0; loss() = 0; answers(0) = 2; isNeeded(0, 0) = false; quarrel(0) = 0; moves(0) = 0;
                swap(0, 1) = false; broken() = 0; sit(0, 0, 2) = 2; isBroken(0) = true; isBroken(1) = true;
                broken() = 1; loss() = 5; bestBroken(0) = 1; bestLoss(0) = 5; answers(0) = 0; isNeeded(0, 0) = true;
                quarrel(0) = 1; moves(0) = throws.NoSuchElementException; sit(1, 0, 5) = 2; broken() = 0;
                sit(0, 1, 1) = 1; sit(1, 1, 4) = 2; way(1, 1, 4) = 3; isBroken(0) = true; loss() = 5; answers(1) = 0;
                sit(0, 2, 0) = 1; sit(1, 2, 1) = 2; way(2, 0, 1) = 1; isBroken(0) = false; loss() = 0; answers(2) = 2
                """);
    }

    private void theWay() {
        sentences.hold("the least number of steps, each to a seat next to it, or opposite to it",
                "addTable('r', 7) = 0; addTable('h', 4) = 1; addTable('l', 6) = 2; " + Sentences.TWO + """
                way(0, 0, 3) = 3; way(0, 0, 4) = 3; way(0, 6, 1) = 2; way(0, 5, 5) = 0; way(1, 3, 0) = 3;
                way(1, 1, 3) = 2;
                way(2, 0, 3) = 1; way(2, 0, 4) = 2; way(2, 0, 5) = 3; way(2, 2, 3) = 3; way(2, 4, 2) = 2;
                way(2, 3, 5) = 2;
                addCondition('a', 0, 1, 0) = 0; addCondition('a', 1, 0, 5) = 1;
                sit(0, 0, 0) = 1; sit(1, 0, 4) = 2; isBroken(0) = false; loss() = 0; answers(0) = 2; quarrel(0) = 0;
                moves(0) = 0; sit(1, 0, 5) = 2; isBroken(0) = true; broken() = 1; loss() = 5; bestBroken(0) = 1;
                bestLoss(0) = 5; answers(0) = 0; isNeeded(0, 0) = true; quarrel(0) = 1;
                moves(0) = throws.NoSuchElementException;
                sit(0, 2, 2) = 1; sit(1, 2, 3) = 2; isBroken(0) = false; answers(2) = 2; moves(2) = 0;
                sit(1, 2, 4) = 2; isBroken(0) = true; answers(2) = 0; sit(1, 1, 0) = 1; isBroken(0) = false; loss() = 0
                """);
    }

    // ---- Guests

    private void sixteenGuests() {
        StringBuilder rows = new StringBuilder("addTable('r', 10) = 0; addTable('h', 10) = 1; ");
        for (int guest = 0; guest < 16; guest++) {
            rows.append("addGuest(99, 120, 4, 31, 'b') = " + guest + "; stateOf(" + guest + ") = 'i'; reply(" + guest
                    + ", true) = 'c'; sit(" + guest + ", " + guest / 10 + ", " + guest % 10 + ") = "
                    + (guest % 10 + 1) + "; ink(" + guest + ") = " + (guest + 1) + "; ");
        }
        sentences.hold("At most 16 are numbered from 0, each with a rank", rows + """
                addGuest(0, 0, 0, 1, 'l') = throws.IllegalStateException;
                addGuest(100, 0, 0, 1, 'l') = throws.IllegalArgumentException;
                addGuest(0, 121, 0, 1, 'l') = throws.IllegalArgumentException;
                addGuest(0, 0, 5, 1, 'l') = throws.IllegalArgumentException;
                addGuest(0, 0, 0, 0, 'l') = throws.IllegalArgumentException;
                addGuest(0, 0, 0, 32, 'l') = throws.IllegalArgumentException;
                addGuest(0, 0, 0, 1, 'x') = throws.IllegalArgumentException;
                reply(16, true) = throws.IndexOutOfBoundsException; stateOf(16) = throws.IndexOutOfBoundsException;
                sit(16, 1, 9) = throws.IndexOutOfBoundsException; rise(16) = throws.IndexOutOfBoundsException;
                seatOf(16) = throws.IndexOutOfBoundsException; swap(16, 0) = throws.IndexOutOfBoundsException;
                swap(0, 16) = throws.IndexOutOfBoundsException; ink(16) = throws.IndexOutOfBoundsException;
                tear(16) = throws.IndexOutOfBoundsException; met(16, 0) = throws.IndexOutOfBoundsException;
                met(0, 16) = throws.IndexOutOfBoundsException;
                addCondition('b', 16, 0, 0) = throws.IndexOutOfBoundsException;
                addCondition('b', 0, 16, 0) = throws.IndexOutOfBoundsException;
                coming() = 16; at(1, 5) = 15; seatOf(15) = 105; tear(15) = 15; rise(15) = 1; first(0, 15) = 15;
                first(1, 0) = 0; dishes(4) = 16; lock() = 16; keepEvening() = 1; met(0, 9) = 1; met(14, 15) = 0;
                unmet() = 65; seatedShare() = 15/16; meanRank(1) = 99.0; addCondition('b', 15, 0, 9) = 0;
                reply(15, false) = 'n'
                """);
    }

    private void hands() {
        String ends = Sentences.TWO + "addCondition('e', 0, 1, 0) = 0; sit(0, 0, L) = 1; sit(1, 0, 0) = 2; ";
        sentences.hold("the first one for the last seat of a round table",
                "addTable('r', 3) = 0; " + ends.replace("L", "2") + """
                isBroken(0) = false; broken() = 0; bestBroken(0) = 0; bestAt(0, 0) = 1; bestAt(0, 2) = 0;
                answers(0) = 1;
                isNeeded(0, 0) = true; quarrel(0) = 0; moves(0) = 0; arrange(0) = 0; swap(0, 1) = false;
                isBroken(0) = true; broken() = 1; bestBroken(0) = 0; moves(0) = 2; answers(0) = 1; arrange(0) = 2;
                at(0, 2) = 0; addCondition('e', 1, 0, 0) = 1; isBroken(1) = false
                """);
        sentences.hold("if these are next to each other and there are 3 seats or more", "addTable('r', 2) = 0; "
                + ends.replace("L", "1") + """
                isBroken(0) = true; broken() = 1; bestBroken(0) = 0; bestAt(0, 0) = 0; answers(0) = 1;
                isNeeded(0, 0) = true; moves(0) = 2; swap(0, 1) = false; isBroken(0) = false; moves(0) = 0
                """);
        sentences.hold("A seat's right hand is the seat next to it with the number 1 more", "addTable('l', 4) = 0; "
                + ends.replace("L", "3") + """
                isBroken(0) = true; bestBroken(0) = 1; answers(0) = 0; quarrel(0) = 1;
                moves(0) = throws.NoSuchElementException;
                sit(0, 0, 1) = 2; isBroken(0) = true; answers(0) = 1; moves(0) = 2; sit(1, 0, 2) = 2;
                isBroken(0) = true;
                answers(0) = 0; sit(1, 0, 0) = 2; sit(0, 0, 2) = 2; sit(1, 0, 3) = 2; isBroken(0) = false;
                answers(0) = 1
                """);
        sentences.hold("its left hand is the seat of which it is the right hand", """
                addTable('r', 3) = 0; addGuest(1, 1, 0, 1, 'l') = 0; addGuest(1, 1, 0, 1, 'b') = 1;
                reply(0, true) = 'c'; reply(1, true) = 'c'; addCondition('e', 0, 1, 0) = 0;
                sit(0, 0, 0) = 1; sit(1, 0, 2) = 2; isBroken(0) = false; answers(0) = 1; moves(0) = 0;
                sit(1, 0, 1) = 2; isBroken(0) = true; answers(0) = 1; moves(0) = 2; bestAt(0, 0) = 1; arrange(0) = 2;
                isBroken(0) = false
                """);
    }

    private void invited() {
        sentences.hold("Who is invited replies yes or no", "addTable('r', 2) = 0; " + """
                addGuest(9, 9, 3, 1, 'b') = 0; addGuest(8, 8, 3, 1, 'b') = 1; stateOf(0) = 'i'; coming() = 0;
                waiting(0) = throws.NoSuchElementException; sit(0, 0, 0) = throws.UnsupportedOperationException;
                rise(0) = throws.UnsupportedOperationException; seatOf(0) = throws.NoSuchElementException;
                ink(0) = throws.UnsupportedOperationException; first(0, 0) = throws.NoSuchElementException;
                dishes(3) = 0; lock() = 0; without() = 0; unmet() = 0; seatedShare() = throws.ArithmeticException;
                reply(0, true) = 'c'; stateOf(0) = 'c'; coming() = 1; sit(0, 0, 0) = 1; first(0, 0) = 0; dishes(3) = 1;
                without() = 1; seatedShare() = 1.0; reply(1, false) = 'n'; stateOf(1) = 'n'; coming() = 1;
                sit(1, 0, 1) = throws.UnsupportedOperationException; dishes(3) = 1; unmet() = 0;
                """ + Sentences.sum(0, 'c', -1, 'n', 0, 0));
    }

    private void aYes() {
        sentences.hold("otherwise the guest waits", Sentences.EVENING + """
                reply(7, true) = 'w'; stateOf(7) = 'w'; coming() = 5; waiting(2) = 7;
                sit(7, 1, 1) = throws.UnsupportedOperationException; first(0, 0) = 4;
                first(0, 5) = throws.NoSuchElementException; dishes(4) = 0; without() = 0; unmet() = 7;
                seatedShare() = 4/5; isSound() = true; lock() = 5;
                """ + Sentences.sum(0, 'c', 1, 'c', 2, 'c', 100, 'c', -1, 'c', -1, 'w', -1, 'w', -1, 'w', 7, 1));
        sentences.hold("With a yes a guest comes, if fewer come than there are seats", Sentences.EVENING + """
                addTable('h', 4) = 2; reply(7, true) = 'c'; stateOf(7) = 'c'; coming() = 8;
                waiting(0) = throws.NoSuchElementException; sit(7, 1, 1) = 2; first(0, 0) = 7; first(1, 7) = 7;
                dishes(4) = 1; without() = 3; unmet() = 25; seatedShare() = 5/8; meanRank(1) = 54.5; faults(1, 0) = 1;
                lock() = 8; without() = 0; isSound() = true;
                """ + Sentences.sum(0, 'c', 1, 'c', 2, 'c', 100, 'c', -1, 'c', -1, 'c', -1, 'c', 101, 'c', 7, 1));
    }

    private void thoseWhoWaitLongest() {
        sentences.hold("As one who comes says no", Sentences.EVENING + """
                reply(4, false) = 'n'; stateOf(5) = 'c'; stateOf(6) = 'w'; coming() = 5; waiting(0) = 6;
                waiting(1) = throws.NoSuchElementException; sit(6, 1, 1) = throws.UnsupportedOperationException;
                sit(5, 1, 1) = 2; first(0, 0) = 5; first(1, 0) = 5; first(0, 4) = 3; dishes(1) = 1; dishes(3) = 1;
                without() = 1; unmet() = 7; seatedShare() = 1.0; meanRank(1) = 40.0; lock() = 5; without() = 0;
                isSound() = true;
                """ + Sentences.sum(0, 'c', 1, 'c', 2, 'c', 100, 'c', -1, 'n', 101, 'c', -1, 'w', -1, 'i', 7, 1));
        sentences.hold("or a table is added, those who wait longest come", Sentences.EVENING + """
                reply(7, true) = 'w'; addTable('l', 2) = 2; stateOf(5) = 'c'; stateOf(6) = 'c'; stateOf(7) = 'w';
                waiting(0) = 7; waiting(1) = throws.NoSuchElementException; coming() = 7; first(0, 0) = 4;
                first(0, 1) = 5;
                first(1, 0) = 5; first(2, 6) = 6; first(2, 7) = throws.NoSuchElementException; dishes(0) = 3;
                dishes(3) = 1; dishes(4) = 0; without() = 2; unmet() = 18; seatedShare() = 4/7; sit(6, 2, 1) = 1;
                seatOf(6) = 201; sit(7, 2, 0) = throws.UnsupportedOperationException; lock() = 7; isSound() = true;
                """ + Sentences.sum(0, 'c', 1, 'c', 2, 'c', 100, 'c', -1, 'c', -1, 'c', 201, 'c', -1, 'w', 7, 1));
        sentences.hold("as far as there are seats", Sentences.EVENING + """
                reply(6, false) = 'n'; coming() = 5; waiting(0) = 5; waiting(1) = throws.NoSuchElementException;
                reply(7, false) = 'n'; coming() = 5; waiting(0) = 5; reply(6, true) = 'w'; reply(7, true) = 'w';
                waiting(1) = 6; waiting(2) = 7; reply(3, false) = 'n'; stateOf(5) = 'c'; waiting(0) = 6;
                reply(0, false) = 'n'; stateOf(6) = 'c'; waiting(0) = 7; reply(3, true) = 'w'; waiting(1) = 3;
                addTable('h', 3) = 2; stateOf(7) = 'c'; stateOf(3) = 'c'; waiting(0) = throws.NoSuchElementException;
                coming() = 7; reply(0, true) = 'c'; coming() = 8; isSound() = true
                """);
    }

    private void aNo() {
        sentences.hold("A no takes from a seat", Sentences.EVENING + """
                reply(1, false) = 'n'; stateOf(1) = 'n'; coming() = 5; seatOf(1) = throws.NoSuchElementException;
                at(0, 1) = throws.NoSuchElementException; seatOf(0) = 0; seatOf(2) = 2;
                seatOf(5) = throws.NoSuchElementException; rise(1) = throws.UnsupportedOperationException;
                swap(1, 0) = throws.UnsupportedOperationException; swap(0, 1) = throws.UnsupportedOperationException;
                ink(1) = throws.UnsupportedOperationException; sit(1, 0, 1) = throws.UnsupportedOperationException;
                isBroken(0) = false; isBroken(1) = false; isBroken(2) = false; isBroken(3) = false; broken() = 0;
                loss() = 0; bestBroken(0) = 0; bestLoss(0) = 0; bestAt(0, 1) = throws.NoSuchElementException;
                bestAt(0, 0) = 0; bestAt(0, 2) = 2; arrange(0) = 0; answers(0) = 2; isNeeded(0, 0) = false;
                isNeeded(0, 1) = false; quarrel(0) = 0; quarrelAt(0, 0) = throws.NoSuchElementException; moves(0) = 0;
                moves(1) = 0; faults(0, 0) = 0; faults(0, 1) = 1; faults(0, 2) = 0; first(0, 0) = 4; first(0, 1) = 5;
                first(0, 2) = 0; first(0, 3) = 2; first(0, 4) = 3; first(1, 0) = 5; first(1, 1) = 2; first(2, 1) = 2;
                dishes(0) = 2; dishes(1) = 1; dishes(3) = 1; without() = 1; met(0, 1) = 1; unmet() = 9;
                seatedShare() = 3/5; meanRank(0) = 50.0; isSound() = true;
                """ + Sentences.sum(0, 'c', -1, 'n', 2, 'c', 100, 'c', -1, 'c', -1, 'c', -1, 'w', -1, 'i', 0, 1) + """
                keepEvening() = 2; met(0, 1) = 1; met(1, 2) = 1; met(0, 2) = 2; sit(5, 0, 1) = 3; lock() = 5;
                without() = 0
                """);
        sentences.hold("tears the card", Sentences.EVENING + """
                reply(1, false) = 'n'; tear(1) = throws.UnsupportedOperationException; tear(3) = 0; ink(3) = 1;
                sit(5, 0, 1) = 3; rise(5) = 0; reply(4, false) = 'n'; reply(5, false) = 'n'; reply(1, true) = 'c';
                sit(1, 0, 1) = 3; tear(1) = throws.UnsupportedOperationException; sit(1, 1, 1) = 2; swap(1, 0) = false;
                rise(1) = 0; sit(1, 0, 0) = 2; ink(1) = 2
                """);
        sentences.hold("and takes from waiting", Sentences.EVENING + """
                reply(5, false) = 'n'; stateOf(5) = 'n'; waiting(0) = 6; waiting(1) = throws.NoSuchElementException;
                coming() = 5; reply(4, false) = 'n'; stateOf(6) = 'c'; stateOf(5) = 'n'; coming() = 5;
                waiting(0) = throws.NoSuchElementException; addTable('r', 9) = 2; stateOf(5) = 'n'; stateOf(4) = 'n';
                coming() = 5; dishes(3) = 0; first(1, 0) = 2; unmet() = 7; isSound() = true;
                """ + Sentences.sum(0, 'c', 1, 'c', 2, 'c', 100, 'c', -1, 'n', -1, 'n', -1, 'c', -1, 'i', 7, 1));
    }

    private void theReplyGivenBefore() {
        String words = "A reply that is the one given before changes nothing";
        sentences.holdUnchanged(words, Sentences.EVENING,
                "reply(0, true) = 'c'; reply(1, true) = 'c'; reply(3, true) = 'c'");
        sentences.holdUnchanged(words, Sentences.EVENING, "reply(4, true) = 'c'");
        sentences.holdUnchanged(words, Sentences.EVENING,
                "reply(5, true) = 'w'; reply(6, true) = 'w'; reply(5, true) = 'w'");
        String said = Sentences.EVENING + "reply(4, false) = 'n'; reply(7, false) = 'n'; ";
        sentences.holdUnchanged(words, said, "reply(4, false) = 'n'; reply(7, false) = 'n'");
        sentences.holdUnchanged(words, said, "reply(5, true) = 'c'");
        sentences.holdUnchanged(words, said + "addTable('h', 2) = 2; ", "reply(4, false) = 'n'; reply(6, true) = 'c'");
        sentences.holdUnchanged(words, said + "reply(7, true) = 'w'; ", "reply(7, true) = 'w'; reply(6, true) = 'w'");
    }
}
