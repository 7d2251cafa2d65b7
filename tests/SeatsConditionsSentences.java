/** The sentences of "Terms" on seats and conditions, each beside every call that it speaks of. */
final class SeatsConditionsSentences {
    private final Sentences sentences;

    private SeatsConditionsSentences(Sentences sentences) {
        this.sentences = sentences;
    }

    static void all(Sentences sentences) {
        SeatsConditionsSentences part = new SeatsConditionsSentences(sentences);
        part.ontoAFreeSeat();
        part.aCardInInk();
        part.kindsOfConditions();
        part.lookedAtIfBothSit();
        part.dropped();
        part.theLoss();
    }

    private void ontoAFreeSeat() {
        sentences.hold("A guest who comes can be put onto a free seat", Sentences.EVENING + """
                sit(5, 1, 1) = throws.UnsupportedOperationException;
                sit(7, 1, 1) = throws.UnsupportedOperationException;
                sit(4, 0, 0) = throws.UnsupportedOperationException;
                sit(0, 0, 0) = throws.UnsupportedOperationException;
                sit(4, 1, 1) = 2; at(1, 1) = 4; seatOf(4) = 101; meanRank(1) = 50.0; seatedShare() = 1.0;
                faults(1, 0) = 1; faults(1, 1) = 1; faults(1, 2) = 0; answers(1) = 2; bestAt(1, 0) = 3;
                bestAt(1, 1) = 4;
                moves(1) = throws.NoSuchElementException;
                """ + Sentences.sum(0, 'c', 1, 'c', 2, 'c', 100, 'c', 101, 'c', -1, 'w', -1, 'w', -1, 'i', 7, 1) + """
                keepEvening() = 2; met(3, 4) = 1; met(0, 1) = 2; unmet() = 6; ink(4) = 3; reply(4, false) = 'n';
                unmet() = 7
                """);
        sentences.hold("also from another one", Sentences.EVENING + """
                sit(0, 1, 1) = 2; at(0, 0) = throws.NoSuchElementException; seatOf(0) = 101; at(1, 1) = 0;
                isBroken(0) = true; broken() = 2; loss() = 7; bestBroken(0) = 2; bestBroken(1) = 2; bestLoss(0) = 7;
                bestAt(0, 0) = throws.NoSuchElementException; answers(0) = 0; answers(1) = 2; isNeeded(0, 0) = false;
                isNeeded(0, 1) = true; quarrel(0) = 1; quarrelAt(0, 0) = 1; quarrel(1) = 0; arrange(0) = 0;
                moves(0) = throws.NoSuchElementException; faults(0, 0) = 0; faults(0, 1) = 1; faults(1, 0) = 1;
                meanRank(0) = 55.0; meanRank(1) = 30.0; seatedShare() = 4/5; keepEvening() = 2; met(0, 3) = 1;
                met(0, 1) = 1; met(1, 2) = 2; unmet() = 6;
                """ + Sentences.sum(101, 'c', 1, 'c', 2, 'c', 100, 'c', -1, 'c', -1, 'w', -1, 'w', -1, 'i', 7, 2) + """
                swap(0, 2) = true; seatOf(2) = 101; seatOf(0) = 2; loss() = 4; rise(2) = 1; sit(2, 0, 0) = 3; loss() = 7
                """);
    }

    private void aCardInInk() {
        sentences.hold("A card in ink holds a guest on the seat", Sentences.EVENING + """
                sit(1, 1, 1) = throws.UnsupportedOperationException; rise(1) = throws.UnsupportedOperationException;
                swap(1, 0) = throws.UnsupportedOperationException; swap(0, 1) = throws.UnsupportedOperationException;
                ink(1) = throws.UnsupportedOperationException; arrange(0) = 0; at(0, 1) = 1; swap(0, 2) = false;
                at(0, 0) = 2; bestAt(0, 0) = 0; bestAt(0, 1) = 1; arrange(0) = 2; at(0, 0) = 0; at(0, 1) = 1;
                drop(1, true) = false; moves(0) = 0; addCondition('b', 0, 2, 0) = 4; isBroken(4) = true;
                moves(0) = throws.NoSuchElementException; bestBroken(0) = 1; bestLoss(0) = 7; answers(0) = 2;
                isNeeded(0, 0) = true; isNeeded(0, 4) = true; quarrel(0) = 0; arrange(0) = 0; reply(1, true) = 'c';
                seatOf(1) = 1
                """);
        sentences.hold("till it is torn", Sentences.EVENING + """
                drop(1, true) = false; addCondition('b', 0, 2, 0) = 4; tear(1) = 1; moves(0) = 2; bestBroken(0) = 0;
                bestLoss(0) = 4; bestAt(0, 0) = 1; bestAt(0, 1) = 0; bestAt(0, 2) = 2; answers(0) = 2; arrange(0) = 2;
                at(0, 1) = 0; broken() = 0; loss() = 4; swap(1, 2) = false; sit(1, 1, 1) = 2; isBroken(2) = false;
                tear(1) = throws.UnsupportedOperationException; rise(1) = 1;
                ink(1) = throws.UnsupportedOperationException;
                tear(3) = 0; rise(3) = 1; tear(3) = throws.UnsupportedOperationException
                """);
    }

    // ---- Conditions

    private void kindsOfConditions() {
        StringBuilder rows = new StringBuilder("addTable('l', 8) = 0; addTable('h', 2) = 1; " + Sentences.TWO);
        for (int i = 0; i < 16; i++) {
            rows.append("addCondition('" + "bnatdose".charAt(i % 8) + "', 0, 1, "
                    + (i < 8 ? 0 : i - 7) + ") = " + i + "; ");
        }
        sentences.hold("At most 16 are numbered from 0, each of a guest and another one", rows + """
                addCondition('b', 0, 1, 0) = throws.IllegalStateException;
                addCondition('x', 0, 1, 0) = throws.IllegalArgumentException;
                addCondition('b', 1, 1, 0) = throws.IllegalArgumentException;
                addCondition('b', 0, 1, 10) = throws.IllegalArgumentException;
                addCondition('b', 0, 1, -1) = throws.IllegalArgumentException;
                isBroken(16) = throws.IndexOutOfBoundsException; drop(16, true) = throws.IndexOutOfBoundsException;
                isNeeded(0, 16) = throws.IndexOutOfBoundsException; drop(15, false) = false; isBroken(15) = false;
                isNeeded(0, 15) = false
                """);
        sentences.hold("'b' next to each other; 'n' not next to each other", rows + """
                sit(0, 0, 1) = 1; sit(1, 0, 2) = 2;
                isBroken(0) = false; isBroken(1) = true; isBroken(2) = true; isBroken(3) = false; isBroken(4) = true;
                isBroken(5) = true; isBroken(6) = true; isBroken(7) = false; isBroken(8) = false; isBroken(9) = true;
                broken() = 5; loss() = 23; bestBroken(0) = 5; bestLoss(0) = 23; bestAt(0, 1) = 0; answers(0) = 0;
                isNeeded(0, 1) = false; quarrel(0) = 1; quarrelAt(0, 0) = 1; moves(0) = throws.NoSuchElementException;
                swap(0, 1) = false; isBroken(7) = true; broken() = 6; loss() = 31; arrange(0) = 2; broken() = 5;
                """ + Sentences.sum(1, 'c', 2, 'c', 23, 0));
        sentences.hold("'o' opposite to each other", rows + """
                sit(0, 0, 1) = 1; sit(1, 0, 5) = 2;
                isBroken(0) = true; isBroken(1) = false; isBroken(2) = true; isBroken(3) = false; isBroken(4) = true;
                isBroken(5) = false; isBroken(6) = false; isBroken(7) = true; broken() = 4; loss() = 17;
                bestBroken(0) = 4; bestLoss(0) = 17; quarrelAt(0, 0) = 0; swap(0, 1) = false; loss() = 17
                """);
        sentences.hold("'a' 3 steps apart or more, or at unlike tables", rows + """
                sit(0, 0, 1) = 1; sit(1, 0, 7) = 2;
                isBroken(0) = true; isBroken(1) = false; isBroken(2) = false; isBroken(3) = false; isBroken(4) = true;
                isBroken(5) = true; isBroken(6) = false; isBroken(7) = true; broken() = 4; loss() = 20;
                bestBroken(0) = 4; sit(1, 0, 6) = 2; isBroken(2) = true; broken() = 5; loss() = 23
                """);
        sentences.hold("'t' at one table; 'd' at unlike tables", rows + """
                sit(0, 0, 1) = 1; sit(1, 1, 0) = 1;
                isBroken(0) = true; isBroken(1) = false; isBroken(2) = false; isBroken(3) = true; isBroken(4) = false;
                isBroken(5) = true; isBroken(6) = false; isBroken(7) = true; broken() = 4; loss() = 19;
                bestBroken(0) = 4; bestBroken(1) = 4; bestLoss(1) = 19; answers(0) = 1; quarrel(0) = 0;
                isNeeded(0, 0) = false; moves(0) = throws.NoSuchElementException; swap(0, 1) = false; loss() = 19
                """);
    }

    private void lookedAtIfBothSit() {
        sentences.hold("A condition is looked at if both sit", Sentences.EVENING + """
                rise(2) = 0; isBroken(0) = false; isBroken(1) = false; isBroken(2) = true; isBroken(3) = false;
                broken() = 0; loss() = 4; bestBroken(0) = 0; bestLoss(0) = 4; bestAt(0, 0) = 0;
                bestAt(0, 2) = throws.NoSuchElementException; arrange(0) = 0; answers(0) = 2; isNeeded(0, 0) = false;
                isNeeded(0, 1) = false; quarrel(0) = 0; quarrelAt(0, 0) = throws.NoSuchElementException; moves(0) = 0;
                moves(1) = 0; bestBroken(1) = 0; bestLoss(1) = 4;
                """ + Sentences.sum(0, 'c', 1, 'c', -1, 'c', 100, 'c', -1, 'c', -1, 'w', -1, 'w', -1, 'i', 4, 1) + """
                sit(2, 1, 1) = 2; isBroken(1) = false; isBroken(3) = false; broken() = 0; loss() = 4; moves(0) = 0;
                answers(1) = 2; swap(2, 0) = false; isBroken(0) = true; isBroken(1) = true; isBroken(3) = true;
                broken() = 2; loss() = 7; swap(0, 2) = true; sit(2, 0, 2) = 3; isBroken(1) = true; broken() = 1;
                loss() = 7; bestBroken(0) = 1; quarrel(0) = 1; moves(0) = throws.NoSuchElementException
                """);
        sentences.hold("otherwise it is not broken", Sentences.EVENING + """
                addCondition('b', 4, 7, 0) = 4; addCondition('b', 4, 0, 0) = 5; addCondition('t', 5, 6, 9) = 6;
                isBroken(4) = false; isBroken(5) = false; isBroken(6) = false; broken() = 1; loss() = 7;
                bestBroken(0) = 1; sit(4, 1, 1) = 2; isBroken(4) = false; isBroken(5) = true; broken() = 2;
                bestBroken(0) = 2; bestBroken(1) = 2; quarrel(1) = 0; isNeeded(1, 5) = false; answers(1) = 2;
                reply(4, false) = 'n'; isBroken(5) = false; broken() = 1; bestBroken(1) = 1; reply(2, false) = 'n';
                isBroken(6) = false; broken() = 0; moves(0) = 0; sit(5, 0, 2) = 3; sit(6, 1, 1) = 2; isBroken(6) = true;
                loss() = 13; rise(6) = 1; loss() = 4
                """);
    }

    private void dropped() {
        sentences.hold("One that is dropped is looked at no more", Sentences.EVENING + """
                drop(1, true) = false; isBroken(1) = false; broken() = 0; loss() = 7; bestBroken(0) = 0;
                bestBroken(1) = 0; bestLoss(0) = 7; answers(0) = 4; isNeeded(0, 1) = false; isNeeded(0, 0) = true;
                quarrel(0) = 0; quarrelAt(0, 0) = throws.NoSuchElementException; moves(0) = 0; moves(1) = 0;
                drop(3, true) = false; isBroken(3) = false; loss() = 4; bestLoss(0) = 4; bestLoss(1) = 4;
                swap(0, 2) = false; swap(0, 2) = false;
                """ + Sentences.sum(0, 'c', 1, 'c', 2, 'c', 100, 'c', -1, 'c', -1, 'w', -1, 'w', -1, 'i', 4, 1) + """
                drop(3, true) = true; drop(1, true) = true; addCondition('n', 0, 1, 0) = 4; isBroken(4) = true;
                quarrel(0) = 2; quarrelAt(0, 0) = 0; quarrelAt(0, 1) = 4; isNeeded(0, 0) = true; isNeeded(0, 4) = true;
                moves(0) = throws.NoSuchElementException; drop(0, true) = false; quarrel(0) = 0; answers(0) = 2;
                tear(1) = 1; moves(0) = 2; bestAt(0, 1) = 2; arrange(0) = 2; broken() = 0; drop(0, false) = true;
                isBroken(0) = true; broken() = 1; drop(1, false) = true; isBroken(1) = true; broken() = 2;
                quarrel(0) = 1; quarrelAt(0, 0) = 1; drop(3, false) = true; isBroken(3) = true; loss() = 7;
                drop(3, false) = false; drop(2, true) = false; loss() = 3; rise(2) = 0; sit(2, 0, 1) = 3;
                drop(2, true) = true
                """);
    }

    private void theLoss() {
        sentences.hold("The loss is the sum of weights of soft conditions that are broken", Sentences.EVENING + """
                loss() = 7; bestLoss(0) = 7; bestLoss(1) = 7; addCondition('d', 0, 1, 9) = 4; loss() = 16;
                bestLoss(0) = 16; addCondition('d', 0, 1, 0) = 5; loss() = 16; broken() = 2;
                addCondition('t', 0, 1, 8) = 6; loss() = 16; drop(4, true) = false; loss() = 7; bestLoss(0) = 7;
                drop(4, false) = true; loss() = 16; rise(0) = 0; loss() = 7; sit(0, 0, 0) = 3; loss() = 16;
                """ + Sentences.sum(0, 'c', 1, 'c', 2, 'c', 100, 'c', -1, 'c', -1, 'w', -1, 'w', -1, 'i', 16, 1) + """
                sit(4, 1, 1) = 2; addCondition('t', 4, 0, 2) = 7; loss() = 18; swap(4, 2) = true; loss() = 13;
                swap(4, 2) = false; loss() = 18; tear(1) = 1; bestLoss(0) = 15; arrange(0) = 2; loss() = 15
                """);
    }
}
