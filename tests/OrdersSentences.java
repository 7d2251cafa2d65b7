/** The sentences of "Terms" on orders, riddles, quarrels and moves, each beside every call that it speaks of. */
final class OrdersSentences {
    private final Sentences sentences;

    private OrdersSentences(Sentences sentences) {
        this.sentences = sentences;
    }

    static void all(Sentences sentences) {
        OrdersSentences part = new OrdersSentences(sentences);
        part.anOrder();
        part.better();
        part.allButCardsInInk();
        part.riddles();
        part.quarrels();
        part.fewestMoves();
    }

    private void anOrder() {
        sentences.hold("gives its guests its seats that they have now, each one", """
                addTable('h', 5) = 0; addGuest(1, 1, 0, 1, 'b') = 0; addGuest(1, 1, 0, 1, 'b') = 1;
                addGuest(1, 1, 0, 1, 'b') = 2; reply(0, true) = 'c'; reply(1, true) = 'c'; reply(2, true) = 'c';
                sit(2, 0, 1) = 1; sit(0, 0, 3) = 2; sit(1, 0, 4) = 3; addCondition('b', 0, 2, 0) = 0;
                isBroken(0) = true;
                bestBroken(0) = 0; bestLoss(0) = 0; bestAt(0, 0) = throws.NoSuchElementException; bestAt(0, 1) = 1;
                bestAt(0, 2) = throws.NoSuchElementException; bestAt(0, 3) = 0; bestAt(0, 4) = 2; answers(0) = 2;
                isNeeded(0, 0) = true; quarrel(0) = 0; moves(0) = 2; arrange(0) = 2; seatOf(1) = 1; seatOf(0) = 3;
                seatOf(2) = 4; at(0, 0) = throws.NoSuchElementException; at(0, 2) = throws.NoSuchElementException;
                sit(2, 0, 0) = 3; isBroken(0) = true; answers(0) = 2; moves(0) = 2; sit(0, 0, 4) = 3;
                isBroken(0) = true;
                answers(0) = 2; sit(0, 0, 3) = 3; rise(1) = 0; answers(0) = 0; quarrel(0) = 1; bestBroken(0) = 1;
                moves(0) = throws.NoSuchElementException
                """);
        sentences.holdUnchanged("all else stays", Sentences.EVENING, """
                bestBroken(0) = 1; bestLoss(0) = 7; bestAt(0, 0) = 0; answers(0) = 0; isNeeded(0, 1) = true;
                quarrel(0) = 1; quarrelAt(0, 0) = 1; moves(0) = throws.NoSuchElementException; arrange(0) = 0;
                bestBroken(1) = 1; answers(1) = 1; arrange(1) = 0
                """);
        sentences.hold("all else stays", Sentences.EVENING + """
                tear(1) = 1; arrange(0) = 2; at(0, 0) = 1; at(0, 1) = 0; at(0, 2) = 2; seatOf(3) = 100;
                seatOf(4) = throws.NoSuchElementException; coming() = 5; waiting(0) = 5; waiting(1) = 6;
                stateOf(7) = 'i';
                dishes(0) = 2; without() = 0; met(0, 1) = 1; met(1, 3) = 0; unmet() = 7; drop(1, false) = false;
                loss() = 4; rise(3) = throws.UnsupportedOperationException; tear(3) = 0; ink(1) = 1; ink(0) = 2;
                seatedShare() = 4/5; meanRank(0) = 160/3; faults(0, 0) = 0; faults(0, 2) = 1; keepEvening() = 2
                """);
        sentences.hold("An order of a table", Sentences.EVENING + """
                addTable('h', 3) = 2; sit(4, 2, 0) = 1; sit(6, 2, 1) = 2; sit(5, 2, 2) = 3; arrange(2) = 2;
                seatOf(5) = 201; seatOf(6) = 202; seatOf(0) = 0; seatOf(3) = 100; bestAt(0, 0) = 0; answers(2) = 6
                """);
    }

    private void better() {
        String three = """
                addTable('h', 3) = 0; addGuest(1, 1, 0, 1, 'r') = 0; addGuest(1, 1, 0, 1, 'r') = 1;
                addGuest(1, 1, 0, 1, 'r') = 2; reply(0, true) = 'c'; reply(1, true) = 'c'; reply(2, true) = 'c';
                sit(0, 0, 2) = 1; sit(1, 0, 1) = 2; sit(2, 0, 0) = 3;
                """;
        sentences.hold("breaks fewer hard conditions", three + """
                addCondition('b', 0, 2, 0) = 0; addCondition('n', 0, 2, 9) = 1; addCondition('d', 0, 1, 1) = 2;
                bestBroken(0) = 0; bestLoss(0) = 10; bestAt(0, 0) = 0; bestAt(0, 1) = 2; bestAt(0, 2) = 1; moves(0) = 2;
                arrange(0) = 3; broken() = 0; loss() = 10; at(0, 1) = 2; arrange(0) = 0
                """);
        sentences.hold("of like ones the one with less loss", three + """
                addCondition('n', 0, 2, 9) = 0; addCondition('e', 1, 0, 3) = 1; loss() = 0; bestBroken(0) = 0;
                bestLoss(0) = 0; bestAt(0, 0) = 2; bestAt(0, 1) = 1; arrange(0) = 0; addCondition('d', 0, 1, 0) = 2;
                bestBroken(0) = 1; bestLoss(0) = 0; bestAt(0, 0) = 2; drop(0, true) = false; bestLoss(0) = 0;
                bestAt(0, 0) = 1; bestAt(0, 1) = 0; bestAt(0, 2) = 2; arrange(0) = 3; loss() = 0; broken() = 1
                """);
        sentences.hold("the one whose first seat with another guest has the lower guest", three + """
                bestAt(0, 0) = 0; bestAt(0, 1) = 1; bestAt(0, 2) = 2; addCondition('b', 0, 1, 4) = 0; bestLoss(0) = 0;
                bestAt(0, 0) = 0; bestAt(0, 1) = 1; addCondition('b', 0, 2, 0) = 1; bestBroken(0) = 0; bestLoss(0) = 0;
                bestAt(0, 0) = 1; bestAt(0, 1) = 0; bestAt(0, 2) = 2; moves(0) = 2; arrange(0) = 3; moves(0) = 0;
                arrange(0) = 0
                """);
    }

    private void allButCardsInInk() {
        sentences.hold("The best order may move all but those whose cards are in ink", Sentences.FOUR + """
                swap(0, 3) = false; swap(1, 2) = false; bestAt(0, 0) = 0; bestAt(0, 3) = 3; ink(3) = 1;
                bestAt(0, 0) = 3;
                bestAt(0, 1) = 0; bestAt(0, 2) = 1; bestAt(0, 3) = 2; arrange(0) = 2; at(0, 1) = 0; at(0, 3) = 2;
                ink(1) = 2; swap(0, 2) = false; bestAt(0, 1) = 0; bestAt(0, 2) = 1; bestAt(0, 3) = 2; ink(0) = 3;
                bestAt(0, 1) = 2; bestAt(0, 3) = 0; arrange(0) = 0; ink(2) = 4; arrange(0) = 0; bestAt(0, 0) = 3;
                bestAt(0, 1) = 2; addCondition('b', 3, 0, 0) = 0; addCondition('d', 3, 0, 6) = 1; bestBroken(0) = 1;
                bestLoss(0) = 6; moves(0) = throws.NoSuchElementException; answers(0) = 12; tear(3) = 3;
                bestBroken(0) = 1; moves(0) = throws.NoSuchElementException; tear(1) = 2; bestBroken(0) = 0;
                bestAt(0, 0) = 1; bestAt(0, 2) = 3; moves(0) = 2; arrange(0) = 2; at(0, 0) = 1; at(0, 3) = 0;
                broken() = 0
                """);
    }

    private void riddles() {
        sentences.hold("A riddle's answers are the orders in which no hard condition", Sentences.FOUR + """
                answers(0) = 24; addCondition('e', 0, 1, 0) = 0; answers(0) = 6; addCondition('e', 1, 2, 0) = 1;
                answers(0) = 2; addCondition('e', 2, 3, 0) = 2; answers(0) = 1; addCondition('d', 0, 3, 9) = 3;
                answers(0) = 1; addCondition('d', 0, 3, 0) = 4; answers(0) = 0; drop(4, true) = false; answers(0) = 1;
                rise(3) = 0; answers(0) = 1; rise(2) = 0; answers(0) = 1; rise(1) = 0; answers(0) = 1; rise(0) = 0;
                answers(0) = 1; sit(0, 0, 3) = 1; sit(1, 0, 0) = 2; answers(0) = 0
                """);
        sentences.hold("of which both guests sit at that table is broken, cards aside", Sentences.FOUR + """
                addTable('h', 2) = 1; addGuest(1, 1, 0, 1, 'b') = 4; addGuest(1, 1, 0, 1, 'b') = 5;
                reply(4, true) = 'c'; reply(5, true) = 'c'; sit(4, 1, 0) = 1; sit(5, 1, 1) = 2;
                addCondition('d', 4, 5, 0) = 0; addCondition('t', 0, 4, 0) = 1; addCondition('b', 0, 3, 0) = 2;
                answers(0) = 12; answers(1) = 0; isNeeded(0, 0) = false; isNeeded(0, 1) = false; isNeeded(0, 2) = true;
                isNeeded(1, 0) = true; isNeeded(1, 1) = false; isNeeded(1, 2) = false; ink(0) = 1; ink(1) = 2;
                ink(2) = 3; ink(3) = 4; answers(0) = 12; isNeeded(0, 2) = true; quarrel(0) = 0; quarrel(1) = 1;
                quarrelAt(1, 0) = 0; bestBroken(0) = 3; moves(0) = throws.NoSuchElementException
                """);
        sentences.hold("a condition is needed for a riddle if there would be more answers without it",
                Sentences.FOUR + """
                addCondition('e', 0, 1, 0) = 0; addCondition('e', 1, 2, 0) = 1; addCondition('e', 0, 1, 0) = 2;
                addCondition('t', 0, 1, 0) = 3; addCondition('b', 2, 3, 4) = 4; answers(0) = 2; isNeeded(0, 0) = false;
                isNeeded(0, 1) = true; isNeeded(0, 2) = false; isNeeded(0, 3) = false; isNeeded(0, 4) = false;
                addCondition('b', 1, 2, 0) = 5; answers(0) = 2; isNeeded(0, 1) = false; isNeeded(0, 5) = false;
                drop(0, true) = false; isNeeded(0, 0) = false; isNeeded(0, 2) = true; answers(0) = 2;
                isNeeded(0, 1) = false; isNeeded(0, 5) = false; drop(1, true) = false; answers(0) = 2;
                isNeeded(0, 1) = false; isNeeded(0, 5) = true; drop(5, true) = false; answers(0) = 6;
                isNeeded(0, 5) = false; rise(0) = 0; isNeeded(0, 2) = false; answers(0) = 6
                """);
    }

    private void quarrels() {
        sentences.hold("A quarrel is a row of hard conditions, of which both guests sit at the table",
                Sentences.FOUR + """
                quarrel(0) = 0; quarrelAt(0, 0) = throws.NoSuchElementException; addCondition('d', 0, 1, 3) = 0;
                quarrel(0) = 0; addTable('h', 2) = 1; addCondition('t', 0, 1, 0) = 1; sit(3, 1, 0) = 1;
                addCondition('t', 0, 3, 0) = 2; quarrel(0) = 0; quarrel(1) = 0; isBroken(2) = true;
                addCondition('d', 1, 0, 0) = 3; quarrel(0) = 1; quarrelAt(0, 0) = 3; quarrel(1) = 0; rise(0) = 0;
                quarrel(0) = 0; sit(0, 1, 1) = 2; quarrel(0) = 0; quarrel(1) = 0
                """);
        sentences.hold("that no order keeps all, cards aside", Sentences.FOUR + """
                addCondition('b', 0, 2, 0) = 0; addCondition('b', 0, 3, 0) = 1; quarrel(0) = 0; ink(0) = 1;
                quarrel(0) = 0;
                moves(0) = throws.NoSuchElementException; bestBroken(0) = 1; addCondition('b', 0, 1, 0) = 2;
                quarrel(0) = 3; quarrelAt(0, 0) = 0; quarrelAt(0, 1) = 1; quarrelAt(0, 2) = 2;
                quarrelAt(0, 3) = throws.NoSuchElementException; quarrelAt(0, -1) = throws.NoSuchElementException;
                answers(0) = 0; drop(1, true) = false; quarrel(0) = 0; answers(0) = 4; drop(1, false) = true;
                quarrel(0) = 3
                """);
        sentences.hold("the least one has the fewest, of like ones that whose first condition is the lowest",
                Sentences.FOUR + """
                addCondition('b', 0, 1, 0) = 0; addCondition('b', 0, 2, 0) = 1; addCondition('b', 0, 3, 0) = 2;
                quarrel(0) = 3; addCondition('n', 3, 0, 0) = 3; quarrel(0) = 2; quarrelAt(0, 0) = 2;
                quarrelAt(0, 1) = 3;
                addCondition('n', 0, 1, 0) = 4; quarrel(0) = 2; quarrelAt(0, 0) = 0; quarrelAt(0, 1) = 4;
                addCondition('n', 1, 0, 0) = 5; quarrelAt(0, 1) = 4; drop(4, true) = false; quarrelAt(0, 0) = 0;
                quarrelAt(0, 1) = 5; drop(0, true) = false; quarrelAt(0, 0) = 2; quarrelAt(0, 1) = 3;
                addCondition('d', 2, 3, 0) = 6; quarrel(0) = 1; quarrelAt(0, 0) = 6;
                quarrelAt(0, 1) = throws.NoSuchElementException; drop(6, true) = false; quarrel(0) = 2
                """);
    }

    private void fewestMoves() {
        sentences.hold("the least number of guests who sit on another seat by some order", Sentences.FOUR + """
                moves(0) = 0; addCondition('b', 0, 2, 0) = 0; moves(0) = 2; addCondition('b', 0, 3, 0) = 1;
                moves(0) = 3;
                addCondition('d', 0, 3, 9) = 2; moves(0) = 3; arrange(0) = 3; moves(0) = 0; at(0, 0) = 1; at(0, 1) = 2;
                at(0, 2) = 0; at(0, 3) = 3; drop(0, true) = false; moves(0) = 0
                """);
        sentences.hold("cards in ink held, in which no hard condition at all is broken", Sentences.FOUR + """
                addCondition('b', 0, 2, 0) = 0; addCondition('b', 0, 3, 0) = 1; ink(3) = 1; moves(0) = 3; ink(2) = 2;
                moves(0) = throws.NoSuchElementException; tear(3) = 1; moves(0) = 3; tear(2) = 0; ink(1) = 1;
                moves(0) = throws.NoSuchElementException; tear(1) = 0; moves(0) = 3; addTable('h', 2) = 1;
                moves(1) = throws.NoSuchElementException; addGuest(1, 1, 0, 1, 'b') = 4; reply(4, true) = 'c';
                sit(4, 1, 0) = 1; addCondition('t', 4, 1, 0) = 2; moves(0) = throws.NoSuchElementException;
                moves(1) = throws.NoSuchElementException; drop(2, true) = false; moves(0) = 3; drop(2, false) = true;
                rise(4) = 1; moves(0) = 3; moves(1) = throws.NoSuchElementException; arrange(0) = 3; moves(1) = 0
                """);
    }
}
