/** The sentences of "Terms" on ranks, dishes, evenings and exceptions, each beside the calls that it speaks of. */
final class EveningsSentences {
    private final Sentences sentences;

    private EveningsSentences(Sentences sentences) {
        this.sentences = sentences;
    }

    static void all(Sentences sentences) {
        EveningsSentences part = new EveningsSentences(sentences);
        part.books();
        part.honourAndFaults();
        part.dishes();
        part.evenings();
        part.exceptions();
    }

    private void books() {
        sentences.hold("There are three books: 0 by rank, the greater one first", Sentences.EVENING + """
                first(0, 0) = 4; first(0, 1) = 1; first(0, 2) = 0; first(0, 3) = 2; first(0, 4) = 3;
                first(0, 5) = throws.NoSuchElementException; first(0, -1) = throws.NoSuchElementException;
                first(1, 0) = 2; first(1, 1) = 0; first(1, 2) = 1; first(1, 3) = 4; first(1, 4) = 3;
                first(1, 5) = throws.NoSuchElementException; first(2, 0) = 0; first(2, 1) = 1; first(2, 4) = 4;
                first(2, 5) = throws.NoSuchElementException; first(3, 0) = throws.IllegalArgumentException;
                first(-1, 9) = throws.IllegalArgumentException; faults(0, 3) = throws.IllegalArgumentException;
                faults(0, -1) = throws.IllegalArgumentException; faults(2, 3) = throws.IndexOutOfBoundsException
                """);
        sentences.hold("of like ones in 0 and 1 the lower number", Sentences.EVENING + """
                rise(0) = 0; first(0, 2) = 0; first(0, 3) = 2; reply(0, false) = 'n'; first(0, 2) = 1; first(0, 3) = 2;
                reply(3, false) = 'n'; reply(0, true) = 'w'; first(0, 3) = 2; first(0, 4) = 6; sit(4, 0, 0) = 3;
                faults(0, 1) = 3; faults(0, 0) = 0; reply(2, false) = 'n'; stateOf(0) = 'c'; sit(0, 0, 2) = 3;
                faults(0, 1) = 3; faults(0, 2) = 3; first(1, 1) = 6; first(1, 2) = 0; first(1, 3) = 1; first(1, 4) = 4
                """);
    }

    private void honourAndFaults() {
        sentences.hold("The honour of a table's seats falls from the seat 0 on by numbers", Sentences.EVENING + """
                faults(0, 0) = 1; faults(0, 1) = 2; faults(0, 2) = 0; swap(0, 2) = false; faults(0, 0) = 2;
                faults(0, 1) = 1; faults(0, 2) = 3; addTable('r', 10) = 2; sit(0, 2, 9) = 1; sit(2, 2, 4) = 2;
                faults(2, 0) = 1; faults(2, 1) = 0; faults(2, 2) = 1; sit(0, 2, 0) = 2; faults(2, 0) = 0;
                faults(2, 1) = 1;
                faults(2, 2) = 0; faults(0, 0) = 0
                """);
        sentences.hold("Faults of a table by a book are pairs of its guests", Sentences.EVENING + """
                addTable('l', 4) = 2; sit(0, 2, 3) = 1; sit(2, 2, 2) = 2; sit(4, 2, 0) = 3; faults(2, 0) = 1;
                faults(2, 1) = 2; faults(2, 2) = 3; sit(6, 2, 1) = 4; faults(2, 0) = 3; faults(2, 1) = 4;
                faults(2, 2) = 5;
                rise(0) = 2; faults(2, 0) = 1; faults(2, 1) = 3; faults(2, 2) = 2; faults(1, 0) = 0; faults(0, 0) = 0
                """);
    }

    private void dishes() {
        sentences.hold("As dishes are locked, the counts of those who come then are kept", Sentences.EVENING + """
                without() = 0; reply(4, false) = 'n'; dishes(1) = 1; dishes(3) = 1; without() = 1;
                reply(2, false) = 'n';
                dishes(0) = 2; without() = 1; reply(5, false) = 'n'; coming() = 4; without() = 0; reply(7, true) = 'c';
                dishes(4) = 1; without() = 1; dishes(5) = throws.IllegalArgumentException;
                dishes(-1) = throws.IllegalArgumentException; rise(0) = 0; sit(0, 1, 1) = 2; without() = 1; lock() = 5;
                without() = 0; addTable('h', 5) = 2; reply(2, true) = 'c'; without() = 1; reply(4, true) = 'c';
                reply(5, true) = 'c'; without() = 3; lock() = 8; without() = 0; reply(0, false) = 'n'; without() = 0
                """);
        sentences.hold("who comes and is in excess of these for a dish goes without", """
                without() = 0; addTable('r', 4) = 0; addGuest(1, 1, 2, 1, 'b') = 0; reply(0, true) = 'c'; without() = 0;
                lock() = 1; addGuest(1, 1, 2, 1, 'b') = 1; addGuest(1, 1, 2, 1, 'b') = 2; without() = 0;
                reply(1, true) = 'c'; without() = 1; reply(2, true) = 'c'; without() = 2; reply(0, false) = 'n';
                without() = 1; reply(1, false) = 'n'; without() = 0; reply(2, false) = 'n'; without() = 0; lock() = 0;
                reply(0, true) = 'c'; without() = 1
                """);
    }

    private void evenings() {
        StringBuilder twenty = new StringBuilder();
        for (int i = 2; i <= 20; i++) {
            twenty.append("keepEvening() = " + i + "; ");
        }
        sentences.hold("At most 20 are kept", Sentences.EVENING + twenty + """
                keepEvening() = throws.IllegalStateException; met(0, 1) = 20; met(2, 0) = 20; met(1, 3) = 0;
                unmet() = 7;
                """ + Sentences.sum(0, 'c', 1, 'c', 2, 'c', 100, 'c', -1, 'c', -1, 'w', -1, 'w', -1, 'i', 7, 20));
        sentences.hold("two guests met if they sat at one table on an evening that was kept", Sentences.EVENING + """
                met(0, 1) = 1; met(1, 0) = 1; met(0, 3) = 0; met(3, 4) = 0; met(4, 5) = 0; unmet() = 7;
                met(8, 8) = throws.IndexOutOfBoundsException; met(4, 4) = throws.IllegalArgumentException;
                sit(0, 1, 1) = 2; met(0, 3) = 0; unmet() = 7; keepEvening() = 2; met(0, 3) = 1; met(0, 1) = 1;
                met(1, 2) = 2; unmet() = 6; rise(0) = 1; met(0, 3) = 1; reply(0, false) = 'n'; met(0, 3) = 1;
                met(0, 1) = 1; unmet() = 9; reply(4, false) = 'n'; reply(6, false) = 'n'; reply(0, true) = 'c';
                unmet() = 6;
                addGuest(1, 1, 0, 1, 'b') = 8; met(8, 0) = 0; met(0, 8) = 0; arrange(0) = 0; keepEvening() = 3;
                met(1, 2) = 3
                """);
    }

    // ---- Exceptions

    private void exceptions() {
        sentences.holdUnchanged("A method that throws an exception changes nothing", Sentences.EVENING, """
                addTable('x', 4) = throws.IllegalArgumentException; addTable('l', 5) = throws.IllegalArgumentException;
                addGuest(1, 1, 5, 1, 'b') = throws.IllegalArgumentException;
                reply(8, false) = throws.IndexOutOfBoundsException;
                sit(1, 1, 1) = throws.UnsupportedOperationException;
                sit(0, 0, 1) = throws.UnsupportedOperationException;
                sit(0, 2, 0) = throws.IndexOutOfBoundsException; sit(0, 1, 2) = throws.NoSuchElementException;
                rise(1) = throws.UnsupportedOperationException; rise(4) = throws.UnsupportedOperationException;
                swap(0, 1) = throws.UnsupportedOperationException; swap(0, 4) = throws.UnsupportedOperationException;
                swap(2, 2) = throws.UnsupportedOperationException; ink(1) = throws.UnsupportedOperationException;
                ink(4) = throws.UnsupportedOperationException; tear(0) = throws.UnsupportedOperationException;
                addCondition('b', 0, 0, 0) = throws.IllegalArgumentException;
                drop(4, true) = throws.IndexOutOfBoundsException;
                arrange(2) = throws.IndexOutOfBoundsException; moves(0) = throws.NoSuchElementException;
                quarrelAt(0, 1) = throws.NoSuchElementException; faults(0, 3) = throws.IllegalArgumentException;
                first(0, 5) = throws.NoSuchElementException; met(0, 0) = throws.IllegalArgumentException
                """);
        sentences.hold("the one that is documented first is thrown", Sentences.EVENING + """
                sit(8, 2, 9) = throws.IndexOutOfBoundsException; sit(1, 2, 9) = throws.IndexOutOfBoundsException;
                sit(1, 1, 2) = throws.NoSuchElementException; way(2, 9, 9) = throws.IndexOutOfBoundsException;
                at(2, 9) = throws.IndexOutOfBoundsException; swap(8, 8) = throws.IndexOutOfBoundsException;
                addCondition('x', 8, 8, 99) = throws.IndexOutOfBoundsException;
                addCondition('x', 0, 0, 99) = throws.IllegalArgumentException;
                bestAt(2, 9) = throws.IndexOutOfBoundsException; isNeeded(2, 9) = throws.IndexOutOfBoundsException;
                quarrelAt(2, 9) = throws.IndexOutOfBoundsException; faults(2, 9) = throws.IndexOutOfBoundsException;
                first(9, 9) = throws.IllegalArgumentException; met(8, 8) = throws.IndexOutOfBoundsException
                """);
        StringBuilder eight = new StringBuilder("addTable('r', 8) = 0; ");
        for (int i = 0; i < 8; i++) {
            eight.append("addGuest(1, 1, 0, 1, 'b') = " + i + "; reply(" + i + ", true) = 'c'; ");
            eight.append(i == 0 ? "" : "sit(" + i + ", 0, " + i + ") = " + i + "; ");
        }
        sentences.hold("the one that is documented first is thrown", eight + """
                bestAt(0, 0) = throws.NoSuchElementException; bestAt(0, 1) = 1; sit(0, 0, 0) = 8;
                bestAt(0, 8) = throws.NoSuchElementException; bestAt(0, 0) = throws.UnsupportedOperationException;
                isNeeded(0, 0) = throws.IndexOutOfBoundsException; addCondition('d', 0, 1, 0) = 0;
                isNeeded(0, 0) = throws.UnsupportedOperationException;
                isNeeded(0, 1) = throws.IndexOutOfBoundsException;
                quarrelAt(0, 9) = throws.UnsupportedOperationException; moves(0) = throws.UnsupportedOperationException;
                rise(7) = 0; moves(0) = throws.NoSuchElementException;
                quarrelAt(0, 9) = throws.UnsupportedOperationException;
                rise(6) = 0; quarrelAt(0, 9) = throws.NoSuchElementException; quarrelAt(0, 0) = 0
                """);
    }
}
