import java.util.List;
import java.util.TreeSet;

/** Runs of calls, each for a sentence of "Terms"; tells which sentences have one. */
final class Sentences {
    // Five come to five seats, two wait, one is invited; 0 1 2 at a row, 3 at a round table, 4 stands; of the hard
    // conditions 1 is broken, of the soft ones both, 4 and 3; the cards of 1 and 3 are in ink.
    static final String EVENING = """
            addTable('h', 3) = 0; addTable('r', 2) = 1;
            addGuest(50, 40, 0, 1, 'b') = 0; addGuest(60, 30, 1, 1, 'b') = 1; addGuest(50, 70, 0, 2, 'l') = 2;
            addGuest(10, 20, 2, 4, 'b') = 3; addGuest(90, 30, 1, 1, 'r') = 4; addGuest(70, 99, 3, 1, 'b') = 5;
            addGuest(20, 50, 0, 1, 'b') = 6; addGuest(99, 1, 4, 1, 'b') = 7;
            reply(0, true) = 'c'; reply(1, true) = 'c'; reply(2, true) = 'c'; reply(3, true) = 'c';
            reply(4, true) = 'c'; reply(5, true) = 'w'; reply(6, true) = 'w';
            sit(0, 0, 0) = 1; sit(1, 0, 1) = 2; sit(2, 0, 2) = 3; sit(3, 1, 0) = 1; ink(1) = 1; ink(3) = 2;
            addCondition('b', 0, 1, 0) = 0; addCondition('d', 1, 2, 0) = 1;
            addCondition('t', 1, 3, 4) = 2; addCondition('s', 1, 2, 3) = 3;
            lock() = 5; keepEvening() = 1;
            """;

    // Two who come to any table of these tests, unlike in tongues; the first one hears by the right ear.
    static final String TWO = """
            addGuest(1, 1, 0, 1, 'r') = 0; addGuest(2, 2, 0, 2, 'b') = 1; reply(0, true) = 'c'; reply(1, true) = 'c';
            """;

    // Four alike who come to a row of four and sit by their numbers.
    static final String FOUR = """
            addTable('h', 4) = 0; addGuest(1, 1, 0, 1, 'r') = 0; addGuest(1, 1, 0, 1, 'r') = 1;
            addGuest(1, 1, 0, 1, 'r') = 2; addGuest(1, 1, 0, 1, 'r') = 3;
            reply(0, true) = 'c'; reply(1, true) = 'c'; reply(2, true) = 'c'; reply(3, true) = 'c';
            sit(0, 0, 0) = 1; sit(1, 0, 1) = 2; sit(2, 0, 2) = 3; sit(3, 0, 3) = 4;
            """;

    private final Check check;
    private final List<String> sentences = Document.sentences();
    private final TreeSet<String> held = new TreeSet<>();

    Sentences(Check check) {
        this.check = check;
    }

    /** Runs rows on a new house, and marks the sentence that these words stand in. */
    void hold(String words, String rows) {
        mark(words);
        Rows.run(check, words, rows);
    }

    private void mark(String words) {
        int found = 0;
        for (String sentence : sentences) {
            if (sentence.contains(words)) {
                held.add(sentence);
                found++;
            }
        }
        check.due("how many sentences say: " + words, found, 1);
    }

    void everySentenceIsHeld() {
        for (String sentence : sentences) {
            check.due("a test of the sentence: " + sentence, held.contains(sentence), true);
        }
        check.due("how many sentences there are", sentences.size(), 31);
    }

    /** Runs rows on a house made by others, which must then answer everything as one that was made by these alone. */
    void holdUnchanged(String words, String made, String rows) {
        mark(words);
        for (int part = 0; part < Probe.PARTS; part++) {
            Placecard house = Rows.house(check, words, made);
            Rows.run(check, words, house, rows);
            check.due(words + ", the house after " + rows, Probe.part(part, house),
                    Probe.part(part, Rows.house(check, words, made)));
        }
    }

    /** A row for checksum(): seat and state of each guest, then the loss and the evenings. */
    static String sum(long... numbers) {
        long sum = 7;
        for (long number : numbers) {
            sum = 31 * sum + number;
        }
        return "checksum() = " + sum + "; ";
    }
}
