import java.util.List;
import java.util.TreeSet;

/** Each sentence of "Terms" beside every call that it speaks of, in rows as the document writes its examples. */
public final class SentencesTest {
    private static final Check check = new Check("SentencesTest");
    private static final List<String> SENTENCES = Document.sentences();
    private static final TreeSet<String> HELD = new TreeSet<>();

    // Five come to five seats, two wait, one is invited; 0 1 2 at a row, 3 at a round table, 4 stands; of the hard
    // conditions 1 is broken, of the soft ones both, 4 and 3; the cards of 1 and 3 are in ink.
    private static final String EVENING = """
            addTable('h', 3) = 0; addTable('r', 2) = 1;
            addGuest(50, 40, 0, 1, 'b') = 0; addGuest(60, 30, 1, 1, 'b') = 1; addGuest(50, 70, 0, 2, 'l') = 2;
            addGuest(10, 20, 2, 4, 'b') = 3; addGuest(90, 30, 1, 1, 'r') = 4; addGuest(70, 99, 3, 1, 'b') = 5;
            addGuest(20, 50, 0, 1, 'b') = 6; addGuest(99, 1, 4, 1, 'b') = 7;
            reply(0, true) = 'c'; reply(1, true) = 'c'; reply(2, true) = 'c'; reply(3, true) = 'c';
            reply(4, true) = 'c'; reply(5, true) = 'w'; reply(6, true) = 'w';
            sit(0, 0, 0) = 1; sit(1, 0, 1) = 2; sit(2, 0, 2) = 3; sit(3, 1, 0) = 1; ink(1) = 1; ink(3) = 2;
            addCondition('b', 0, 1, 0) = 0; addCondition('d', 1, 2, 0) = 1;
            addCondition('t', 1, 3, 4) = 2; addCondition('s', 1, 2, 3) = 3;
            lock() = 5; keepEvening() = 1;
            """;

    // Two who come to any table of these tests, unlike in tongues; the first one hears by the right ear.
    private static final String TWO = """
            addGuest(1, 1, 0, 1, 'r') = 0; addGuest(2, 2, 0, 2, 'b') = 1; reply(0, true) = 'c'; reply(1, true) = 'c';
            """;

    // Four alike who come to a row of four and sit by their numbers.
    private static final String FOUR = """
            addTable('h', 4) = 0; addGuest(1, 1, 0, 1, 'r') = 0; addGuest(1, 1, 0, 1, 'r') = 1;
            addGuest(1, 1, 0, 1, 'r') = 2; addGuest(1, 1, 0, 1, 'r') = 3;
            reply(0, true) = 'c'; reply(1, true) = 'c'; reply(2, true) = 'c'; reply(3, true) = 'c';
            sit(0, 0, 0) = 1; sit(1, 0, 1) = 2; sit(2, 0, 2) = 3; sit(3, 0, 3) = 4;
            """;

    public static void main(String[] args) {
        theWholeEvening();
        sixTables();
        nextToEachOther();
        opposite();
        theWay();
        sixteenGuests();
        hands();
        invited();
        aYes();
        thoseWhoWaitLongest();
        aNo();
        theReplyGivenBefore();
        ontoAFreeSeat();
        aCardInInk();
        kindsOfConditions();
        lookedAtIfBothSit();
        dropped();
        theLoss();
        anOrder();
        better();
        allButCardsInInk();
        riddles();
        quarrels();
        fewestMoves();
        books();
        honourAndFaults();
        dishes();
        evenings();
        exceptions();
        everySentenceIsHeld();
        check.end();
    }

    /** Runs rows on a new house, and marks the sentence that these words stand in. */
    private static void hold(String words, String rows) {
        mark(words);
        Rows.run(check, words, rows);
    }

    private static void mark(String words) {
        int found = 0;
        for (String sentence : SENTENCES) {
            if (sentence.contains(words)) {
                HELD.add(sentence);
                found++;
            }
        }
        check.due("how many sentences say: " + words, found, 1);
    }

    private static void everySentenceIsHeld() {
        for (String sentence : SENTENCES) {
            check.due("a test of the sentence: " + sentence, HELD.contains(sentence), true);
        }
        check.due("how many sentences there are", SENTENCES.size(), 31);
    }

    /** Runs rows on a house made by others, which must then answer everything as one that was made by these alone. */
    private static void holdUnchanged(String words, String made, String rows) {
        mark(words);
        for (int part = 0; part < Probe.PARTS; part++) {
            Placecard house = Rows.house(check, words, made);
            Rows.run(check, words, house, rows);
            check.due(words + ", the house after " + rows, Probe.part(part, house),
                    Probe.part(part, Rows.house(check, words, made)));
        }
    }

    /** A row for checksum(): seat and state of each guest, then the loss and the evenings. */
    private static String checksum(long... numbers) {
        long sum = 7;
        for (long number : numbers) {
            sum = 31 * sum + number;
        }
        return "checksum() = " + sum + "; ";
    }

    // ---- what it is

    private static void theWholeEvening() {
        hold("Guests reply, wait for a place, and go to seats", EVENING + """
                coming() = 5; waiting(0) = 5; waiting(1) = 6; waiting(2) = throws.NoSuchElementException;
                stateOf(0) = 'c'; stateOf(4) = 'c'; stateOf(5) = 'w'; stateOf(6) = 'w'; stateOf(7) = 'i';
                seatOf(0) = 0; seatOf(1) = 1; seatOf(2) = 2; seatOf(3) = 100;
                seatOf(4) = throws.NoSuchElementException; at(0, 0) = 0; at(0, 1) = 1; at(0, 2) = 2; at(1, 0) = 3;
                at(1, 1) = throws.NoSuchElementException;
                isBroken(0) = false; isBroken(1) = true; isBroken(2) = true; isBroken(3) = true;
                broken() = 1; loss() = 7;
                bestBroken(0) = 1; bestLoss(0) = 7; bestAt(0, 0) = 0; bestAt(0, 1) = 1; bestAt(0, 2) = 2; arrange(0) = 0;
                bestBroken(1) = 1; bestLoss(1) = 7; bestAt(1, 0) = 3; bestAt(1, 1) = throws.NoSuchElementException;
                arrange(1) = 0; answers(0) = 0; answers(1) = 1;
                isNeeded(0, 0) = false; isNeeded(0, 1) = true; isNeeded(0, 2) = false; isNeeded(0, 3) = false;
                isNeeded(1, 1) = false; quarrel(0) = 1; quarrelAt(0, 0) = 1;
                quarrelAt(0, 1) = throws.NoSuchElementException; quarrel(1) = 0;
                quarrelAt(1, 0) = throws.NoSuchElementException;
                moves(0) = throws.NoSuchElementException; moves(1) = throws.NoSuchElementException;
                faults(0, 0) = 1; faults(0, 1) = 2; faults(0, 2) = 0; faults(1, 0) = 0; faults(1, 1) = 0;
                dishes(0) = 2; dishes(1) = 2; dishes(2) = 1; dishes(3) = 0; dishes(4) = 0; without() = 0;
                met(0, 1) = 1; met(1, 2) = 1; met(0, 2) = 1; met(1, 3) = 0; met(0, 7) = 0; unmet() = 7;
                seatedShare() = 4/5; meanRank(0) = 160/3; meanRank(1) = 10.0; isSound() = true;
                """ + checksum(0, 'c', 1, 'c', 2, 'c', 100, 'c', -1, 'c', -1, 'w', -1, 'w', -1, 'i', 7, 1));
    }

    // ---- Tables

    private static void sixTables() {
        String bounds = "throws.IndexOutOfBoundsException";
        String element = "throws.NoSuchElementException";
        String six = """
                addTable('r', 2) = 0; addTable('h', 10) = 1; addTable('l', 4) = 2; addTable('r', 10) = 3;
                addTable('h', 2) = 4; addTable('l', 10) = 5; addTable('r', 2) = throws.IllegalStateException;
                """ + TWO + "sit(0, 5, 9) = 1; sit(1, 0, 0) = 1; addCondition('d', 0, 1, 0) = 0; ";
        hold("At most 6 are numbered from 0, each round 'r'", six + """
                way(0, 0, 1) = 1; way(1, 0, 9) = 9; way(2, 0, 3) = 2; way(3, 0, 9) = 1; way(4, 0, 1) = 1; way(5, 0, 9) = 5;
                seatOf(0) = 509; at(5, 9) = 0; bestAt(5, 9) = 0; bestBroken(5) = 0; bestLoss(5) = 0; arrange(5) = 0;
                answers(5) = 1; isNeeded(5, 0) = false; quarrel(5) = 0; moves(5) = 0; faults(5, 0) = 0;
                meanRank(5) = 1.0; meanRank(0) = 2.0;
                """ + "way(6, 0, 0) = " + bounds + "; at(6, 0) = " + bounds + "; sit(0, 6, 0) = " + bounds
                + "; bestAt(6, 0) = " + bounds + "; bestBroken(6) = " + bounds + "; bestLoss(6) = " + bounds
                + "; arrange(6) = " + bounds + "; answers(6) = " + bounds + "; isNeeded(6, 0) = " + bounds
                + "; quarrel(6) = " + bounds + "; quarrelAt(6, 0) = " + bounds + "; moves(6) = " + bounds
                + "; faults(6, 0) = " + bounds + "; meanRank(6) = " + bounds + "; rise(0) = 5");
        hold("with 2 to 10 seats, numbered from 0", six + "way(5, 0, 10) = " + element + "; way(5, -1, 0) = " + element
                + "; way(0, 2, 0) = " + element + "; sit(0, 5, 10) = " + element + "; sit(0, 0, 2) = " + element
                + "; at(5, 10) = " + element + "; at(0, 2) = " + element + "; bestAt(5, 10) = " + element
                + "; bestAt(0, 2) = " + element + "; sit(0, 3, 9) = 1; sit(0, 1, 9) = 1; sit(0, 2, 3) = 1;"
                + " sit(0, 4, 1) = 1; sit(0, 0, 1) = 2");
        hold("a long one has an even number of them", """
                addTable('l', 3) = throws.IllegalArgumentException; addTable('l', 9) = throws.IllegalArgumentException;
                addTable('r', 1) = throws.IllegalArgumentException; addTable('h', 11) = throws.IllegalArgumentException;
                addTable('r', 3) = 0; addTable('h', 9) = 1; addTable('l', 8) = 2
                """);
    }

    // Of two guests, 'n' hard and 'b' soft: all answers where they are next to each other, and where they are not.
    private static String dueNext(int table) {
        return "isBroken(0) = true; isBroken(1) = false; broken() = 1; loss() = 0; bestBroken(T) = 1; bestLoss(T) = 0;"
                .replace("T", "" + table) + """
                answers(T) = 0; isNeeded(T, 0) = true; isNeeded(T, 1) = false; quarrel(T) = 1; quarrelAt(T, 0) = 0;
                moves(T) = throws.NoSuchElementException; swap(0, 1) = false; broken() = 1; swap(0, 1) = false;
                """.replace("T", "" + table);
    }

    private static String dueApart(int table) {
        return "isBroken(0) = false; isBroken(1) = true; broken() = 0; loss() = 5; bestBroken(T) = 0; bestLoss(T) = 5;"
                .replace("T", "" + table) + """
                answers(T) = 2; isNeeded(T, 0) = false; isNeeded(T, 1) = false; quarrel(T) = 0;
                quarrelAt(T, 0) = throws.NoSuchElementException; moves(T) = 0; swap(0, 1) = false; loss() = 5;
                swap(0, 1) = false;
                """.replace("T", "" + table);
    }

    private static void nextToEachOther() {
        String kinds = TWO + "addCondition('n', 0, 1, 0) = 0; addCondition('b', 0, 1, 5) = 1; ";
        hold("seats whose numbers differ by 1", "addTable('r', 6) = 0; addTable('h', 6) = 1; " + kinds
                + "sit(0, 0, 2) = 1; sit(1, 0, 3) = 2; " + dueNext(0) + "sit(1, 0, 4) = 2; " + dueApart(0)
                + "sit(0, 1, 5) = 1; sit(1, 1, 4) = 2; " + dueNext(1) + "sit(1, 1, 3) = 2; " + dueApart(1));
        hold("the first and the last, too, if there are 3 or more", "addTable('r', 3) = 0; addTable('h', 3) = 1; "
                + kinds + "sit(0, 0, 0) = 1; sit(1, 0, 2) = 2; way(0, 0, 2) = 1; " + dueNext(0)
                + "sit(0, 1, 0) = 1; sit(1, 1, 2) = 2; way(1, 0, 2) = 2; " + dueApart(1));
        hold("not the last seat of the first half and the first one of the second half",
                "addTable('l', 4) = 0; addTable('l', 8) = 1; " + kinds
                + "sit(0, 0, 1) = 1; sit(1, 0, 2) = 2; " + dueApart(0) + "sit(0, 0, 3) = 2; " + dueNext(0)
                + "sit(0, 1, 3) = 1; sit(1, 1, 4) = 2; " + dueApart(1) + "sit(0, 1, 5) = 2; " + dueNext(1)
                + "sit(0, 1, 0) = 2; " + dueApart(1) + "sit(0, 1, 7) = 2; " + dueApart(1));
    }

    private static void opposite() {
        hold("a seat of the first half is opposite to the one that is half of the seats later",
                "addTable('l', 6) = 0; addTable('r', 6) = 1; addTable('l', 2) = 2; " + TWO + """
                addCondition('o', 0, 1, 0) = 0; addCondition('o', 1, 0, 5) = 1;
                sit(0, 0, 1) = 1; sit(1, 0, 4) = 2; way(0, 1, 4) = 1; isBroken(0) = false; isBroken(1) = false;
                broken() = 0; loss() = 0; answers(0) = 2; isNeeded(0, 0) = false; quarrel(0) = 0; moves(0) = 0;
                swap(0, 1) = false; broken() = 0; sit(0, 0, 2) = 2; isBroken(0) = true; isBroken(1) = true;
                broken() = 1; loss() = 5; bestBroken(0) = 1; bestLoss(0) = 5; answers(0) = 0; isNeeded(0, 0) = true;
                quarrel(0) = 1; moves(0) = throws.NoSuchElementException; sit(1, 0, 5) = 2; broken() = 0;
                sit(0, 1, 1) = 1; sit(1, 1, 4) = 2; way(1, 1, 4) = 3; isBroken(0) = true; loss() = 5; answers(1) = 0;
                sit(0, 2, 0) = 1; sit(1, 2, 1) = 2; way(2, 0, 1) = 1; isBroken(0) = false; loss() = 0; answers(2) = 2
                """);
    }

    private static void theWay() {
        hold("the least number of steps, each to a seat next to it, or opposite to it",
                "addTable('r', 7) = 0; addTable('h', 4) = 1; addTable('l', 6) = 2; " + TWO + """
                way(0, 0, 3) = 3; way(0, 0, 4) = 3; way(0, 6, 1) = 2; way(0, 5, 5) = 0; way(1, 3, 0) = 3; way(1, 1, 3) = 2;
                way(2, 0, 3) = 1; way(2, 0, 4) = 2; way(2, 0, 5) = 3; way(2, 2, 3) = 3; way(2, 4, 2) = 2; way(2, 3, 5) = 2;
                addCondition('a', 0, 1, 0) = 0; addCondition('a', 1, 0, 5) = 1;
                sit(0, 0, 0) = 1; sit(1, 0, 4) = 2; isBroken(0) = false; loss() = 0; answers(0) = 2; quarrel(0) = 0;
                moves(0) = 0; sit(1, 0, 5) = 2; isBroken(0) = true; broken() = 1; loss() = 5; bestBroken(0) = 1;
                bestLoss(0) = 5; answers(0) = 0; isNeeded(0, 0) = true; quarrel(0) = 1;
                moves(0) = throws.NoSuchElementException;
                sit(0, 2, 2) = 1; sit(1, 2, 3) = 2; isBroken(0) = false; answers(2) = 2; moves(2) = 0;
                sit(1, 2, 4) = 2; isBroken(0) = true; answers(2) = 0; sit(1, 1, 0) = 1; isBroken(0) = false; loss() = 0
                """);
    }

    // ---- Guests

    private static void sixteenGuests() {
        StringBuilder rows = new StringBuilder("addTable('r', 10) = 0; addTable('h', 10) = 1; ");
        for (int guest = 0; guest < 16; guest++) {
            rows.append("addGuest(99, 120, 4, 31, 'b') = " + guest + "; stateOf(" + guest + ") = 'i'; reply(" + guest
                    + ", true) = 'c'; sit(" + guest + ", " + guest / 10 + ", " + guest % 10 + ") = "
                    + (guest % 10 + 1) + "; ink(" + guest + ") = " + (guest + 1) + "; ");
        }
        hold("At most 16 are numbered from 0, each with a rank", rows + """
                addGuest(0, 0, 0, 1, 'l') = throws.IllegalStateException;
                addGuest(100, 0, 0, 1, 'l') = throws.IllegalArgumentException;
                addGuest(0, 121, 0, 1, 'l') = throws.IllegalArgumentException;
                addGuest(0, 0, 5, 1, 'l') = throws.IllegalArgumentException;
                addGuest(0, 0, 0, 0, 'l') = throws.IllegalArgumentException;
                addGuest(0, 0, 0, 32, 'l') = throws.IllegalArgumentException;
                addGuest(0, 0, 0, 1, 'x') = throws.IllegalArgumentException;
                reply(16, true) = throws.IndexOutOfBoundsException; stateOf(16) = throws.IndexOutOfBoundsException;
                sit(16, 1, 9) = throws.IndexOutOfBoundsException; rise(16) = throws.IndexOutOfBoundsException;
                seatOf(16) = throws.IndexOutOfBoundsException; swap(16, 0) = throws.IndexOutOfBoundsException;
                swap(0, 16) = throws.IndexOutOfBoundsException; ink(16) = throws.IndexOutOfBoundsException;
                tear(16) = throws.IndexOutOfBoundsException; met(16, 0) = throws.IndexOutOfBoundsException;
                met(0, 16) = throws.IndexOutOfBoundsException;
                addCondition('b', 16, 0, 0) = throws.IndexOutOfBoundsException;
                addCondition('b', 0, 16, 0) = throws.IndexOutOfBoundsException;
                coming() = 16; at(1, 5) = 15; seatOf(15) = 105; tear(15) = 15; rise(15) = 1; first(0, 15) = 15;
                first(1, 0) = 0; dishes(4) = 16; lock() = 16; keepEvening() = 1; met(0, 9) = 1; met(14, 15) = 0;
                unmet() = 65; seatedShare() = 15/16; meanRank(1) = 99.0; addCondition('b', 15, 0, 9) = 0;
                reply(15, false) = 'n'
                """);
    }

    private static void hands() {
        String ends = TWO + "addCondition('e', 0, 1, 0) = 0; sit(0, 0, L) = 1; sit(1, 0, 0) = 2; ";
        hold("the first one for the last seat of a round table", "addTable('r', 3) = 0; " + ends.replace("L", "2") + """
                isBroken(0) = false; broken() = 0; bestBroken(0) = 0; bestAt(0, 0) = 1; bestAt(0, 2) = 0; answers(0) = 1;
                isNeeded(0, 0) = true; quarrel(0) = 0; moves(0) = 0; arrange(0) = 0; swap(0, 1) = false;
                isBroken(0) = true; broken() = 1; bestBroken(0) = 0; moves(0) = 2; answers(0) = 1; arrange(0) = 2;
                at(0, 2) = 0; addCondition('e', 1, 0, 0) = 1; isBroken(1) = false
                """);
        hold("if these are next to each other and there are 3 seats or more", "addTable('r', 2) = 0; "
                + ends.replace("L", "1") + """
                isBroken(0) = true; broken() = 1; bestBroken(0) = 0; bestAt(0, 0) = 0; answers(0) = 1;
                isNeeded(0, 0) = true; moves(0) = 2; swap(0, 1) = false; isBroken(0) = false; moves(0) = 0
                """);
        hold("A seat's right hand is the seat next to it with the number 1 more", "addTable('l', 4) = 0; "
                + ends.replace("L", "3") + """
                isBroken(0) = true; bestBroken(0) = 1; answers(0) = 0; quarrel(0) = 1; moves(0) = throws.NoSuchElementException;
                sit(0, 0, 1) = 2; isBroken(0) = true; answers(0) = 1; moves(0) = 2; sit(1, 0, 2) = 2; isBroken(0) = true;
                answers(0) = 0; sit(1, 0, 0) = 2; sit(0, 0, 2) = 2; sit(1, 0, 3) = 2; isBroken(0) = false; answers(0) = 1
                """);
        hold("its left hand is the seat of which it is the right hand", """
                addTable('r', 3) = 0; addGuest(1, 1, 0, 1, 'l') = 0; addGuest(1, 1, 0, 1, 'b') = 1;
                reply(0, true) = 'c'; reply(1, true) = 'c'; addCondition('e', 0, 1, 0) = 0;
                sit(0, 0, 0) = 1; sit(1, 0, 2) = 2; isBroken(0) = false; answers(0) = 1; moves(0) = 0;
                sit(1, 0, 1) = 2; isBroken(0) = true; answers(0) = 1; moves(0) = 2; bestAt(0, 0) = 1; arrange(0) = 2;
                isBroken(0) = false
                """);
    }

    private static void invited() {
        hold("Who is invited replies yes or no", "addTable('r', 2) = 0; " + """
                addGuest(9, 9, 3, 1, 'b') = 0; addGuest(8, 8, 3, 1, 'b') = 1; stateOf(0) = 'i'; coming() = 0;
                waiting(0) = throws.NoSuchElementException; sit(0, 0, 0) = throws.UnsupportedOperationException;
                rise(0) = throws.UnsupportedOperationException; seatOf(0) = throws.NoSuchElementException;
                ink(0) = throws.UnsupportedOperationException; first(0, 0) = throws.NoSuchElementException;
                dishes(3) = 0; lock() = 0; without() = 0; unmet() = 0; seatedShare() = throws.ArithmeticException;
                reply(0, true) = 'c'; stateOf(0) = 'c'; coming() = 1; sit(0, 0, 0) = 1; first(0, 0) = 0; dishes(3) = 1;
                without() = 1; seatedShare() = 1.0; reply(1, false) = 'n'; stateOf(1) = 'n'; coming() = 1;
                sit(1, 0, 1) = throws.UnsupportedOperationException; dishes(3) = 1; unmet() = 0;
                """ + checksum(0, 'c', -1, 'n', 0, 0));
    }

    private static void aYes() {
        hold("otherwise the guest waits", EVENING + """
                reply(7, true) = 'w'; stateOf(7) = 'w'; coming() = 5; waiting(2) = 7;
                sit(7, 1, 1) = throws.UnsupportedOperationException; first(0, 0) = 4;
                first(0, 5) = throws.NoSuchElementException; dishes(4) = 0; without() = 0; unmet() = 7;
                seatedShare() = 4/5; isSound() = true; lock() = 5;
                """ + checksum(0, 'c', 1, 'c', 2, 'c', 100, 'c', -1, 'c', -1, 'w', -1, 'w', -1, 'w', 7, 1));
        hold("With a yes a guest comes, if fewer come than there are seats", EVENING + """
                addTable('h', 4) = 2; reply(7, true) = 'c'; stateOf(7) = 'c'; coming() = 8;
                waiting(0) = throws.NoSuchElementException; sit(7, 1, 1) = 2; first(0, 0) = 7; first(1, 7) = 7;
                dishes(4) = 1; without() = 3; unmet() = 25; seatedShare() = 5/8; meanRank(1) = 54.5; faults(1, 0) = 1;
                lock() = 8; without() = 0; isSound() = true;
                """ + checksum(0, 'c', 1, 'c', 2, 'c', 100, 'c', -1, 'c', -1, 'c', -1, 'c', 101, 'c', 7, 1));
    }

    private static void thoseWhoWaitLongest() {
        hold("As one who comes says no", EVENING + """
                reply(4, false) = 'n'; stateOf(5) = 'c'; stateOf(6) = 'w'; coming() = 5; waiting(0) = 6;
                waiting(1) = throws.NoSuchElementException; sit(6, 1, 1) = throws.UnsupportedOperationException;
                sit(5, 1, 1) = 2; first(0, 0) = 5; first(1, 0) = 5; first(0, 4) = 3; dishes(1) = 1; dishes(3) = 1;
                without() = 1; unmet() = 7; seatedShare() = 1.0; meanRank(1) = 40.0; lock() = 5; without() = 0;
                isSound() = true;
                """ + checksum(0, 'c', 1, 'c', 2, 'c', 100, 'c', -1, 'n', 101, 'c', -1, 'w', -1, 'i', 7, 1));
        hold("or a table is added, those who wait longest come", EVENING + """
                reply(7, true) = 'w'; addTable('l', 2) = 2; stateOf(5) = 'c'; stateOf(6) = 'c'; stateOf(7) = 'w';
                waiting(0) = 7; waiting(1) = throws.NoSuchElementException; coming() = 7; first(0, 0) = 4; first(0, 1) = 5;
                first(1, 0) = 5; first(2, 6) = 6; first(2, 7) = throws.NoSuchElementException; dishes(0) = 3;
                dishes(3) = 1; dishes(4) = 0; without() = 2; unmet() = 18; seatedShare() = 4/7; sit(6, 2, 1) = 1;
                seatOf(6) = 201; sit(7, 2, 0) = throws.UnsupportedOperationException; lock() = 7; isSound() = true;
                """ + checksum(0, 'c', 1, 'c', 2, 'c', 100, 'c', -1, 'c', -1, 'c', 201, 'c', -1, 'w', 7, 1));
        hold("as far as there are seats", EVENING + """
                reply(6, false) = 'n'; coming() = 5; waiting(0) = 5; waiting(1) = throws.NoSuchElementException;
                reply(7, false) = 'n'; coming() = 5; waiting(0) = 5; reply(6, true) = 'w'; reply(7, true) = 'w';
                waiting(1) = 6; waiting(2) = 7; reply(3, false) = 'n'; stateOf(5) = 'c'; waiting(0) = 6;
                reply(0, false) = 'n'; stateOf(6) = 'c'; waiting(0) = 7; reply(3, true) = 'w'; waiting(1) = 3;
                addTable('h', 3) = 2; stateOf(7) = 'c'; stateOf(3) = 'c'; waiting(0) = throws.NoSuchElementException;
                coming() = 7; reply(0, true) = 'c'; coming() = 8; isSound() = true
                """);
    }

    private static void aNo() {
        hold("A no takes from a seat", EVENING + """
                reply(1, false) = 'n'; stateOf(1) = 'n'; coming() = 5; seatOf(1) = throws.NoSuchElementException;
                at(0, 1) = throws.NoSuchElementException; seatOf(0) = 0; seatOf(2) = 2;
                seatOf(5) = throws.NoSuchElementException; rise(1) = throws.UnsupportedOperationException;
                swap(1, 0) = throws.UnsupportedOperationException; swap(0, 1) = throws.UnsupportedOperationException;
                ink(1) = throws.UnsupportedOperationException; sit(1, 0, 1) = throws.UnsupportedOperationException;
                isBroken(0) = false; isBroken(1) = false; isBroken(2) = false; isBroken(3) = false; broken() = 0;
                loss() = 0; bestBroken(0) = 0; bestLoss(0) = 0; bestAt(0, 1) = throws.NoSuchElementException;
                bestAt(0, 0) = 0; bestAt(0, 2) = 2; arrange(0) = 0; answers(0) = 2; isNeeded(0, 0) = false;
                isNeeded(0, 1) = false; quarrel(0) = 0; quarrelAt(0, 0) = throws.NoSuchElementException; moves(0) = 0;
                moves(1) = 0; faults(0, 0) = 0; faults(0, 1) = 1; faults(0, 2) = 0; first(0, 0) = 4; first(0, 1) = 5;
                first(0, 2) = 0; first(0, 3) = 2; first(0, 4) = 3; first(1, 0) = 5; first(1, 1) = 2; first(2, 1) = 2;
                dishes(0) = 2; dishes(1) = 1; dishes(3) = 1; without() = 1; met(0, 1) = 1; unmet() = 9;
                seatedShare() = 3/5; meanRank(0) = 50.0; isSound() = true;
                """ + checksum(0, 'c', -1, 'n', 2, 'c', 100, 'c', -1, 'c', -1, 'c', -1, 'w', -1, 'i', 0, 1) + """
                keepEvening() = 2; met(0, 1) = 1; met(1, 2) = 1; met(0, 2) = 2; sit(5, 0, 1) = 3; lock() = 5; without() = 0
                """);
        hold("tears the card", EVENING + """
                reply(1, false) = 'n'; tear(1) = throws.UnsupportedOperationException; tear(3) = 0; ink(3) = 1;
                sit(5, 0, 1) = 3; rise(5) = 0; reply(4, false) = 'n'; reply(5, false) = 'n'; reply(1, true) = 'c';
                sit(1, 0, 1) = 3; tear(1) = throws.UnsupportedOperationException; sit(1, 1, 1) = 2; swap(1, 0) = false;
                rise(1) = 0; sit(1, 0, 0) = 2; ink(1) = 2
                """);
        hold("and takes from waiting", EVENING + """
                reply(5, false) = 'n'; stateOf(5) = 'n'; waiting(0) = 6; waiting(1) = throws.NoSuchElementException;
                coming() = 5; reply(4, false) = 'n'; stateOf(6) = 'c'; stateOf(5) = 'n'; coming() = 5;
                waiting(0) = throws.NoSuchElementException; addTable('r', 9) = 2; stateOf(5) = 'n'; stateOf(4) = 'n';
                coming() = 5; dishes(3) = 0; first(1, 0) = 2; unmet() = 7; isSound() = true;
                """ + checksum(0, 'c', 1, 'c', 2, 'c', 100, 'c', -1, 'n', -1, 'n', -1, 'c', -1, 'i', 7, 1));
    }

    private static void theReplyGivenBefore() {
        String words = "A reply that is the one given before changes nothing";
        holdUnchanged(words, EVENING, "reply(0, true) = 'c'; reply(1, true) = 'c'; reply(3, true) = 'c'");
        holdUnchanged(words, EVENING, "reply(4, true) = 'c'");
        holdUnchanged(words, EVENING, "reply(5, true) = 'w'; reply(6, true) = 'w'; reply(5, true) = 'w'");
        String said = EVENING + "reply(4, false) = 'n'; reply(7, false) = 'n'; ";
        holdUnchanged(words, said, "reply(4, false) = 'n'; reply(7, false) = 'n'");
        holdUnchanged(words, said, "reply(5, true) = 'c'");
        holdUnchanged(words, said + "addTable('h', 2) = 2; ", "reply(4, false) = 'n'; reply(6, true) = 'c'");
        holdUnchanged(words, said + "reply(7, true) = 'w'; ", "reply(7, true) = 'w'; reply(6, true) = 'w'");
    }

    // ---- Seats

    private static void ontoAFreeSeat() {
        hold("A guest who comes can be put onto a free seat", EVENING + """
                sit(5, 1, 1) = throws.UnsupportedOperationException; sit(7, 1, 1) = throws.UnsupportedOperationException;
                sit(4, 0, 0) = throws.UnsupportedOperationException; sit(0, 0, 0) = throws.UnsupportedOperationException;
                sit(4, 1, 1) = 2; at(1, 1) = 4; seatOf(4) = 101; meanRank(1) = 50.0; seatedShare() = 1.0;
                faults(1, 0) = 1; faults(1, 1) = 1; faults(1, 2) = 0; answers(1) = 2; bestAt(1, 0) = 3; bestAt(1, 1) = 4;
                moves(1) = throws.NoSuchElementException;
                """ + checksum(0, 'c', 1, 'c', 2, 'c', 100, 'c', 101, 'c', -1, 'w', -1, 'w', -1, 'i', 7, 1) + """
                keepEvening() = 2; met(3, 4) = 1; met(0, 1) = 2; unmet() = 6; ink(4) = 3; reply(4, false) = 'n'; unmet() = 7
                """);
        hold("also from another one", EVENING + """
                sit(0, 1, 1) = 2; at(0, 0) = throws.NoSuchElementException; seatOf(0) = 101; at(1, 1) = 0;
                isBroken(0) = true; broken() = 2; loss() = 7; bestBroken(0) = 2; bestBroken(1) = 2; bestLoss(0) = 7;
                bestAt(0, 0) = throws.NoSuchElementException; answers(0) = 0; answers(1) = 2; isNeeded(0, 0) = false;
                isNeeded(0, 1) = true; quarrel(0) = 1; quarrelAt(0, 0) = 1; quarrel(1) = 0; arrange(0) = 0;
                moves(0) = throws.NoSuchElementException; faults(0, 0) = 0; faults(0, 1) = 1; faults(1, 0) = 1;
                meanRank(0) = 55.0; meanRank(1) = 30.0; seatedShare() = 4/5; keepEvening() = 2; met(0, 3) = 1;
                met(0, 1) = 1; met(1, 2) = 2; unmet() = 6;
                """ + checksum(101, 'c', 1, 'c', 2, 'c', 100, 'c', -1, 'c', -1, 'w', -1, 'w', -1, 'i', 7, 2) + """
                swap(0, 2) = true; seatOf(2) = 101; seatOf(0) = 2; loss() = 4; rise(2) = 1; sit(2, 0, 0) = 3; loss() = 7
                """);
    }

    private static void aCardInInk() {
        hold("A card in ink holds a guest on the seat", EVENING + """
                sit(1, 1, 1) = throws.UnsupportedOperationException; rise(1) = throws.UnsupportedOperationException;
                swap(1, 0) = throws.UnsupportedOperationException; swap(0, 1) = throws.UnsupportedOperationException;
                ink(1) = throws.UnsupportedOperationException; arrange(0) = 0; at(0, 1) = 1; swap(0, 2) = false;
                at(0, 0) = 2; bestAt(0, 0) = 0; bestAt(0, 1) = 1; arrange(0) = 2; at(0, 0) = 0; at(0, 1) = 1;
                drop(1, true) = false; moves(0) = 0; addCondition('b', 0, 2, 0) = 4; isBroken(4) = true;
                moves(0) = throws.NoSuchElementException; bestBroken(0) = 1; bestLoss(0) = 7; answers(0) = 2;
                isNeeded(0, 0) = true; isNeeded(0, 4) = true; quarrel(0) = 0; arrange(0) = 0; reply(1, true) = 'c';
                seatOf(1) = 1
                """);
        hold("till it is torn", EVENING + """
                drop(1, true) = false; addCondition('b', 0, 2, 0) = 4; tear(1) = 1; moves(0) = 2; bestBroken(0) = 0;
                bestLoss(0) = 4; bestAt(0, 0) = 1; bestAt(0, 1) = 0; bestAt(0, 2) = 2; answers(0) = 2; arrange(0) = 2;
                at(0, 1) = 0; broken() = 0; loss() = 4; swap(1, 2) = false; sit(1, 1, 1) = 2; isBroken(2) = false;
                tear(1) = throws.UnsupportedOperationException; rise(1) = 1; ink(1) = throws.UnsupportedOperationException;
                tear(3) = 0; rise(3) = 1; tear(3) = throws.UnsupportedOperationException
                """);
    }

    // ---- Conditions

    private static void kindsOfConditions() {
        StringBuilder rows = new StringBuilder("addTable('l', 8) = 0; addTable('h', 2) = 1; " + TWO);
        for (int i = 0; i < 16; i++) {
            rows.append("addCondition('" + "bnatdose".charAt(i % 8) + "', 0, 1, " + (i < 8 ? 0 : i - 7) + ") = " + i + "; ");
        }
        hold("At most 16 are numbered from 0, each of a guest and another one", rows + """
                addCondition('b', 0, 1, 0) = throws.IllegalStateException;
                addCondition('x', 0, 1, 0) = throws.IllegalArgumentException;
                addCondition('b', 1, 1, 0) = throws.IllegalArgumentException;
                addCondition('b', 0, 1, 10) = throws.IllegalArgumentException;
                addCondition('b', 0, 1, -1) = throws.IllegalArgumentException;
                isBroken(16) = throws.IndexOutOfBoundsException; drop(16, true) = throws.IndexOutOfBoundsException;
                isNeeded(0, 16) = throws.IndexOutOfBoundsException; drop(15, false) = false; isBroken(15) = false;
                isNeeded(0, 15) = false
                """);
        hold("'b' next to each other; 'n' not next to each other", rows + """
                sit(0, 0, 1) = 1; sit(1, 0, 2) = 2;
                isBroken(0) = false; isBroken(1) = true; isBroken(2) = true; isBroken(3) = false; isBroken(4) = true;
                isBroken(5) = true; isBroken(6) = true; isBroken(7) = false; isBroken(8) = false; isBroken(9) = true;
                broken() = 5; loss() = 23; bestBroken(0) = 5; bestLoss(0) = 23; bestAt(0, 1) = 0; answers(0) = 0;
                isNeeded(0, 1) = false; quarrel(0) = 1; quarrelAt(0, 0) = 1; moves(0) = throws.NoSuchElementException;
                swap(0, 1) = false; isBroken(7) = true; broken() = 6; loss() = 31; arrange(0) = 2; broken() = 5;
                """ + checksum(1, 'c', 2, 'c', 23, 0));
        hold("'o' opposite to each other", rows + """
                sit(0, 0, 1) = 1; sit(1, 0, 5) = 2;
                isBroken(0) = true; isBroken(1) = false; isBroken(2) = true; isBroken(3) = false; isBroken(4) = true;
                isBroken(5) = false; isBroken(6) = false; isBroken(7) = true; broken() = 4; loss() = 17;
                bestBroken(0) = 4; bestLoss(0) = 17; quarrelAt(0, 0) = 0; swap(0, 1) = false; loss() = 17
                """);
        hold("'a' 3 steps apart or more, or at unlike tables", rows + """
                sit(0, 0, 1) = 1; sit(1, 0, 7) = 2;
                isBroken(0) = true; isBroken(1) = false; isBroken(2) = false; isBroken(3) = false; isBroken(4) = true;
                isBroken(5) = true; isBroken(6) = false; isBroken(7) = true; broken() = 4; loss() = 20;
                bestBroken(0) = 4; sit(1, 0, 6) = 2; isBroken(2) = true; broken() = 5; loss() = 23
                """);
        hold("'t' at one table; 'd' at unlike tables", rows + """
                sit(0, 0, 1) = 1; sit(1, 1, 0) = 1;
                isBroken(0) = true; isBroken(1) = false; isBroken(2) = false; isBroken(3) = true; isBroken(4) = false;
                isBroken(5) = true; isBroken(6) = false; isBroken(7) = true; broken() = 4; loss() = 19;
                bestBroken(0) = 4; bestBroken(1) = 4; bestLoss(1) = 19; answers(0) = 1; quarrel(0) = 0;
                isNeeded(0, 0) = false; moves(0) = throws.NoSuchElementException; swap(0, 1) = false; loss() = 19
                """);
    }

    private static void lookedAtIfBothSit() {
        hold("A condition is looked at if both sit", EVENING + """
                rise(2) = 0; isBroken(0) = false; isBroken(1) = false; isBroken(2) = true; isBroken(3) = false;
                broken() = 0; loss() = 4; bestBroken(0) = 0; bestLoss(0) = 4; bestAt(0, 0) = 0;
                bestAt(0, 2) = throws.NoSuchElementException; arrange(0) = 0; answers(0) = 2; isNeeded(0, 0) = false;
                isNeeded(0, 1) = false; quarrel(0) = 0; quarrelAt(0, 0) = throws.NoSuchElementException; moves(0) = 0;
                moves(1) = 0; bestBroken(1) = 0; bestLoss(1) = 4;
                """ + checksum(0, 'c', 1, 'c', -1, 'c', 100, 'c', -1, 'c', -1, 'w', -1, 'w', -1, 'i', 4, 1) + """
                sit(2, 1, 1) = 2; isBroken(1) = false; isBroken(3) = false; broken() = 0; loss() = 4; moves(0) = 0;
                answers(1) = 2; swap(2, 0) = false; isBroken(0) = true; isBroken(1) = true; isBroken(3) = true;
                broken() = 2; loss() = 7; swap(0, 2) = true; sit(2, 0, 2) = 3; isBroken(1) = true; broken() = 1;
                loss() = 7; bestBroken(0) = 1; quarrel(0) = 1; moves(0) = throws.NoSuchElementException
                """);
        hold("otherwise it is not broken", EVENING + """
                addCondition('b', 4, 7, 0) = 4; addCondition('b', 4, 0, 0) = 5; addCondition('t', 5, 6, 9) = 6;
                isBroken(4) = false; isBroken(5) = false; isBroken(6) = false; broken() = 1; loss() = 7;
                bestBroken(0) = 1; sit(4, 1, 1) = 2; isBroken(4) = false; isBroken(5) = true; broken() = 2;
                bestBroken(0) = 2; bestBroken(1) = 2; quarrel(1) = 0; isNeeded(1, 5) = false; answers(1) = 2;
                reply(4, false) = 'n'; isBroken(5) = false; broken() = 1; bestBroken(1) = 1; reply(2, false) = 'n';
                isBroken(6) = false; broken() = 0; moves(0) = 0; sit(5, 0, 2) = 3; sit(6, 1, 1) = 2; isBroken(6) = true;
                loss() = 13; rise(6) = 1; loss() = 4
                """);
    }

    private static void dropped() {
        hold("One that is dropped is looked at no more", EVENING + """
                drop(1, true) = false; isBroken(1) = false; broken() = 0; loss() = 7; bestBroken(0) = 0;
                bestBroken(1) = 0; bestLoss(0) = 7; answers(0) = 4; isNeeded(0, 1) = false; isNeeded(0, 0) = true;
                quarrel(0) = 0; quarrelAt(0, 0) = throws.NoSuchElementException; moves(0) = 0; moves(1) = 0;
                drop(3, true) = false; isBroken(3) = false; loss() = 4; bestLoss(0) = 4; bestLoss(1) = 4;
                swap(0, 2) = false; swap(0, 2) = false;
                """ + checksum(0, 'c', 1, 'c', 2, 'c', 100, 'c', -1, 'c', -1, 'w', -1, 'w', -1, 'i', 4, 1) + """
                drop(3, true) = true; drop(1, true) = true; addCondition('n', 0, 1, 0) = 4; isBroken(4) = true;
                quarrel(0) = 2; quarrelAt(0, 0) = 0; quarrelAt(0, 1) = 4; isNeeded(0, 0) = true; isNeeded(0, 4) = true;
                moves(0) = throws.NoSuchElementException; drop(0, true) = false; quarrel(0) = 0; answers(0) = 2;
                tear(1) = 1; moves(0) = 2; bestAt(0, 1) = 2; arrange(0) = 2; broken() = 0; drop(0, false) = true;
                isBroken(0) = true; broken() = 1; drop(1, false) = true; isBroken(1) = true; broken() = 2;
                quarrel(0) = 1; quarrelAt(0, 0) = 1; drop(3, false) = true; isBroken(3) = true; loss() = 7;
                drop(3, false) = false; drop(2, true) = false; loss() = 3; rise(2) = 0; sit(2, 0, 1) = 3; drop(2, true) = true
                """);
    }

    private static void theLoss() {
        hold("The loss is the sum of weights of soft conditions that are broken", EVENING + """
                loss() = 7; bestLoss(0) = 7; bestLoss(1) = 7; addCondition('d', 0, 1, 9) = 4; loss() = 16;
                bestLoss(0) = 16; addCondition('d', 0, 1, 0) = 5; loss() = 16; broken() = 2;
                addCondition('t', 0, 1, 8) = 6; loss() = 16; drop(4, true) = false; loss() = 7; bestLoss(0) = 7;
                drop(4, false) = true; loss() = 16; rise(0) = 0; loss() = 7; sit(0, 0, 0) = 3; loss() = 16;
                """ + checksum(0, 'c', 1, 'c', 2, 'c', 100, 'c', -1, 'c', -1, 'w', -1, 'w', -1, 'i', 16, 1) + """
                sit(4, 1, 1) = 2; addCondition('t', 4, 0, 2) = 7; loss() = 18; swap(4, 2) = true; loss() = 13;
                swap(4, 2) = false; loss() = 18; tear(1) = 1; bestLoss(0) = 15; arrange(0) = 2; loss() = 15
                """);
    }

    // ---- Orders

    private static void anOrder() {
        hold("gives its guests its seats that they have now, each one", """
                addTable('h', 5) = 0; addGuest(1, 1, 0, 1, 'b') = 0; addGuest(1, 1, 0, 1, 'b') = 1;
                addGuest(1, 1, 0, 1, 'b') = 2; reply(0, true) = 'c'; reply(1, true) = 'c'; reply(2, true) = 'c';
                sit(2, 0, 1) = 1; sit(0, 0, 3) = 2; sit(1, 0, 4) = 3; addCondition('b', 0, 2, 0) = 0; isBroken(0) = true;
                bestBroken(0) = 0; bestLoss(0) = 0; bestAt(0, 0) = throws.NoSuchElementException; bestAt(0, 1) = 1;
                bestAt(0, 2) = throws.NoSuchElementException; bestAt(0, 3) = 0; bestAt(0, 4) = 2; answers(0) = 2;
                isNeeded(0, 0) = true; quarrel(0) = 0; moves(0) = 2; arrange(0) = 2; seatOf(1) = 1; seatOf(0) = 3;
                seatOf(2) = 4; at(0, 0) = throws.NoSuchElementException; at(0, 2) = throws.NoSuchElementException;
                sit(2, 0, 0) = 3; isBroken(0) = true; answers(0) = 2; moves(0) = 2; sit(0, 0, 4) = 3; isBroken(0) = true;
                answers(0) = 2; sit(0, 0, 3) = 3; rise(1) = 0; answers(0) = 0; quarrel(0) = 1; bestBroken(0) = 1;
                moves(0) = throws.NoSuchElementException
                """);
        holdUnchanged("all else stays", EVENING, """
                bestBroken(0) = 1; bestLoss(0) = 7; bestAt(0, 0) = 0; answers(0) = 0; isNeeded(0, 1) = true;
                quarrel(0) = 1; quarrelAt(0, 0) = 1; moves(0) = throws.NoSuchElementException; arrange(0) = 0;
                bestBroken(1) = 1; answers(1) = 1; arrange(1) = 0
                """);
        hold("all else stays", EVENING + """
                tear(1) = 1; arrange(0) = 2; at(0, 0) = 1; at(0, 1) = 0; at(0, 2) = 2; seatOf(3) = 100;
                seatOf(4) = throws.NoSuchElementException; coming() = 5; waiting(0) = 5; waiting(1) = 6; stateOf(7) = 'i';
                dishes(0) = 2; without() = 0; met(0, 1) = 1; met(1, 3) = 0; unmet() = 7; drop(1, false) = false;
                loss() = 4; rise(3) = throws.UnsupportedOperationException; tear(3) = 0; ink(1) = 1; ink(0) = 2;
                seatedShare() = 4/5; meanRank(0) = 160/3; faults(0, 0) = 0; faults(0, 2) = 1; keepEvening() = 2
                """);
        hold("An order of a table", EVENING + """
                addTable('h', 3) = 2; sit(4, 2, 0) = 1; sit(6, 2, 1) = 2; sit(5, 2, 2) = 3; arrange(2) = 2;
                seatOf(5) = 201; seatOf(6) = 202; seatOf(0) = 0; seatOf(3) = 100; bestAt(0, 0) = 0; answers(2) = 6
                """);
    }

    private static void better() {
        String three = """
                addTable('h', 3) = 0; addGuest(1, 1, 0, 1, 'r') = 0; addGuest(1, 1, 0, 1, 'r') = 1;
                addGuest(1, 1, 0, 1, 'r') = 2; reply(0, true) = 'c'; reply(1, true) = 'c'; reply(2, true) = 'c';
                sit(0, 0, 2) = 1; sit(1, 0, 1) = 2; sit(2, 0, 0) = 3;
                """;
        hold("breaks fewer hard conditions", three + """
                addCondition('b', 0, 2, 0) = 0; addCondition('n', 0, 2, 9) = 1; addCondition('d', 0, 1, 1) = 2;
                bestBroken(0) = 0; bestLoss(0) = 10; bestAt(0, 0) = 0; bestAt(0, 1) = 2; bestAt(0, 2) = 1; moves(0) = 2;
                arrange(0) = 3; broken() = 0; loss() = 10; at(0, 1) = 2; arrange(0) = 0
                """);
        hold("of like ones the one with less loss", three + """
                addCondition('n', 0, 2, 9) = 0; addCondition('e', 1, 0, 3) = 1; loss() = 0; bestBroken(0) = 0;
                bestLoss(0) = 0; bestAt(0, 0) = 2; bestAt(0, 1) = 1; arrange(0) = 0; addCondition('d', 0, 1, 0) = 2;
                bestBroken(0) = 1; bestLoss(0) = 0; bestAt(0, 0) = 2; drop(0, true) = false; bestLoss(0) = 0;
                bestAt(0, 0) = 1; bestAt(0, 1) = 0; bestAt(0, 2) = 2; arrange(0) = 3; loss() = 0; broken() = 1
                """);
        hold("the one whose first seat with another guest has the lower guest", three + """
                bestAt(0, 0) = 0; bestAt(0, 1) = 1; bestAt(0, 2) = 2; addCondition('b', 0, 1, 4) = 0; bestLoss(0) = 0;
                bestAt(0, 0) = 0; bestAt(0, 1) = 1; addCondition('b', 0, 2, 0) = 1; bestBroken(0) = 0; bestLoss(0) = 0;
                bestAt(0, 0) = 1; bestAt(0, 1) = 0; bestAt(0, 2) = 2; moves(0) = 2; arrange(0) = 3; moves(0) = 0;
                arrange(0) = 0
                """);
    }

    private static void allButCardsInInk() {
        hold("The best order may move all but those whose cards are in ink", FOUR + """
                swap(0, 3) = false; swap(1, 2) = false; bestAt(0, 0) = 0; bestAt(0, 3) = 3; ink(3) = 1; bestAt(0, 0) = 3;
                bestAt(0, 1) = 0; bestAt(0, 2) = 1; bestAt(0, 3) = 2; arrange(0) = 2; at(0, 1) = 0; at(0, 3) = 2;
                ink(1) = 2; swap(0, 2) = false; bestAt(0, 1) = 0; bestAt(0, 2) = 1; bestAt(0, 3) = 2; ink(0) = 3;
                bestAt(0, 1) = 2; bestAt(0, 3) = 0; arrange(0) = 0; ink(2) = 4; arrange(0) = 0; bestAt(0, 0) = 3;
                bestAt(0, 1) = 2; addCondition('b', 3, 0, 0) = 0; addCondition('d', 3, 0, 6) = 1; bestBroken(0) = 1;
                bestLoss(0) = 6; moves(0) = throws.NoSuchElementException; answers(0) = 12; tear(3) = 3;
                bestBroken(0) = 1; moves(0) = throws.NoSuchElementException; tear(1) = 2; bestBroken(0) = 0;
                bestAt(0, 0) = 1; bestAt(0, 2) = 3; moves(0) = 2; arrange(0) = 2; at(0, 0) = 1; at(0, 3) = 0; broken() = 0
                """);
    }

    private static void riddles() {
        hold("A riddle's answers are the orders in which no hard condition", FOUR + """
                answers(0) = 24; addCondition('e', 0, 1, 0) = 0; answers(0) = 6; addCondition('e', 1, 2, 0) = 1;
                answers(0) = 2; addCondition('e', 2, 3, 0) = 2; answers(0) = 1; addCondition('d', 0, 3, 9) = 3;
                answers(0) = 1; addCondition('d', 0, 3, 0) = 4; answers(0) = 0; drop(4, true) = false; answers(0) = 1;
                rise(3) = 0; answers(0) = 1; rise(2) = 0; answers(0) = 1; rise(1) = 0; answers(0) = 1; rise(0) = 0;
                answers(0) = 1; sit(0, 0, 3) = 1; sit(1, 0, 0) = 2; answers(0) = 0
                """);
        hold("of which both guests sit at that table is broken, cards aside", FOUR + """
                addTable('h', 2) = 1; addGuest(1, 1, 0, 1, 'b') = 4; addGuest(1, 1, 0, 1, 'b') = 5;
                reply(4, true) = 'c'; reply(5, true) = 'c'; sit(4, 1, 0) = 1; sit(5, 1, 1) = 2;
                addCondition('d', 4, 5, 0) = 0; addCondition('t', 0, 4, 0) = 1; addCondition('b', 0, 3, 0) = 2;
                answers(0) = 12; answers(1) = 0; isNeeded(0, 0) = false; isNeeded(0, 1) = false; isNeeded(0, 2) = true;
                isNeeded(1, 0) = true; isNeeded(1, 1) = false; isNeeded(1, 2) = false; ink(0) = 1; ink(1) = 2;
                ink(2) = 3; ink(3) = 4; answers(0) = 12; isNeeded(0, 2) = true; quarrel(0) = 0; quarrel(1) = 1;
                quarrelAt(1, 0) = 0; bestBroken(0) = 3; moves(0) = throws.NoSuchElementException
                """);
        hold("a condition is needed for a riddle if there would be more answers without it", FOUR + """
                addCondition('e', 0, 1, 0) = 0; addCondition('e', 1, 2, 0) = 1; addCondition('e', 0, 1, 0) = 2;
                addCondition('t', 0, 1, 0) = 3; addCondition('b', 2, 3, 4) = 4; answers(0) = 2; isNeeded(0, 0) = false;
                isNeeded(0, 1) = true; isNeeded(0, 2) = false; isNeeded(0, 3) = false; isNeeded(0, 4) = false;
                addCondition('b', 1, 2, 0) = 5; answers(0) = 2; isNeeded(0, 1) = false; isNeeded(0, 5) = false;
                drop(0, true) = false; isNeeded(0, 0) = false; isNeeded(0, 2) = true; answers(0) = 2;
                isNeeded(0, 1) = false; isNeeded(0, 5) = false; drop(1, true) = false; answers(0) = 2;
                isNeeded(0, 1) = false; isNeeded(0, 5) = true; drop(5, true) = false; answers(0) = 6;
                isNeeded(0, 5) = false; rise(0) = 0; isNeeded(0, 2) = false; answers(0) = 6
                """);
    }

    private static void quarrels() {
        hold("A quarrel is a row of hard conditions, of which both guests sit at the table", FOUR + """
                quarrel(0) = 0; quarrelAt(0, 0) = throws.NoSuchElementException; addCondition('d', 0, 1, 3) = 0;
                quarrel(0) = 0; addTable('h', 2) = 1; addCondition('t', 0, 1, 0) = 1; sit(3, 1, 0) = 1;
                addCondition('t', 0, 3, 0) = 2; quarrel(0) = 0; quarrel(1) = 0; isBroken(2) = true;
                addCondition('d', 1, 0, 0) = 3; quarrel(0) = 1; quarrelAt(0, 0) = 3; quarrel(1) = 0; rise(0) = 0;
                quarrel(0) = 0; sit(0, 1, 1) = 2; quarrel(0) = 0; quarrel(1) = 0
                """);
        hold("that no order keeps all, cards aside", FOUR + """
                addCondition('b', 0, 2, 0) = 0; addCondition('b', 0, 3, 0) = 1; quarrel(0) = 0; ink(0) = 1; quarrel(0) = 0;
                moves(0) = throws.NoSuchElementException; bestBroken(0) = 1; addCondition('b', 0, 1, 0) = 2;
                quarrel(0) = 3; quarrelAt(0, 0) = 0; quarrelAt(0, 1) = 1; quarrelAt(0, 2) = 2;
                quarrelAt(0, 3) = throws.NoSuchElementException; quarrelAt(0, -1) = throws.NoSuchElementException;
                answers(0) = 0; drop(1, true) = false; quarrel(0) = 0; answers(0) = 4; drop(1, false) = true; quarrel(0) = 3
                """);
        hold("the least one has the fewest, of like ones that whose first condition is the lowest", FOUR + """
                addCondition('b', 0, 1, 0) = 0; addCondition('b', 0, 2, 0) = 1; addCondition('b', 0, 3, 0) = 2;
                quarrel(0) = 3; addCondition('n', 3, 0, 0) = 3; quarrel(0) = 2; quarrelAt(0, 0) = 2; quarrelAt(0, 1) = 3;
                addCondition('n', 0, 1, 0) = 4; quarrel(0) = 2; quarrelAt(0, 0) = 0; quarrelAt(0, 1) = 4;
                addCondition('n', 1, 0, 0) = 5; quarrelAt(0, 1) = 4; drop(4, true) = false; quarrelAt(0, 0) = 0;
                quarrelAt(0, 1) = 5; drop(0, true) = false; quarrelAt(0, 0) = 2; quarrelAt(0, 1) = 3;
                addCondition('d', 2, 3, 0) = 6; quarrel(0) = 1; quarrelAt(0, 0) = 6;
                quarrelAt(0, 1) = throws.NoSuchElementException; drop(6, true) = false; quarrel(0) = 2
                """);
    }

    private static void fewestMoves() {
        hold("the least number of guests who sit on another seat by some order", FOUR + """
                moves(0) = 0; addCondition('b', 0, 2, 0) = 0; moves(0) = 2; addCondition('b', 0, 3, 0) = 1; moves(0) = 3;
                addCondition('d', 0, 3, 9) = 2; moves(0) = 3; arrange(0) = 3; moves(0) = 0; at(0, 0) = 1; at(0, 1) = 2;
                at(0, 2) = 0; at(0, 3) = 3; drop(0, true) = false; moves(0) = 0
                """);
        hold("cards in ink held, in which no hard condition at all is broken", FOUR + """
                addCondition('b', 0, 2, 0) = 0; addCondition('b', 0, 3, 0) = 1; ink(3) = 1; moves(0) = 3; ink(2) = 2;
                moves(0) = throws.NoSuchElementException; tear(3) = 1; moves(0) = 3; tear(2) = 0; ink(1) = 1;
                moves(0) = throws.NoSuchElementException; tear(1) = 0; moves(0) = 3; addTable('h', 2) = 1;
                moves(1) = throws.NoSuchElementException; addGuest(1, 1, 0, 1, 'b') = 4; reply(4, true) = 'c';
                sit(4, 1, 0) = 1; addCondition('t', 4, 1, 0) = 2; moves(0) = throws.NoSuchElementException;
                moves(1) = throws.NoSuchElementException; drop(2, true) = false; moves(0) = 3; drop(2, false) = true;
                rise(4) = 1; moves(0) = 3; moves(1) = throws.NoSuchElementException; arrange(0) = 3; moves(1) = 0
                """);
    }

    // ---- Ranks, dishes, evenings

    private static void books() {
        hold("There are three books: 0 by rank, the greater one first", EVENING + """
                first(0, 0) = 4; first(0, 1) = 1; first(0, 2) = 0; first(0, 3) = 2; first(0, 4) = 3;
                first(0, 5) = throws.NoSuchElementException; first(0, -1) = throws.NoSuchElementException;
                first(1, 0) = 2; first(1, 1) = 0; first(1, 2) = 1; first(1, 3) = 4; first(1, 4) = 3;
                first(1, 5) = throws.NoSuchElementException; first(2, 0) = 0; first(2, 1) = 1; first(2, 4) = 4;
                first(2, 5) = throws.NoSuchElementException; first(3, 0) = throws.IllegalArgumentException;
                first(-1, 9) = throws.IllegalArgumentException; faults(0, 3) = throws.IllegalArgumentException;
                faults(0, -1) = throws.IllegalArgumentException; faults(2, 3) = throws.IndexOutOfBoundsException
                """);
        hold("of like ones in 0 and 1 the lower number", EVENING + """
                rise(0) = 0; first(0, 2) = 0; first(0, 3) = 2; reply(0, false) = 'n'; first(0, 2) = 1; first(0, 3) = 2;
                reply(3, false) = 'n'; reply(0, true) = 'w'; first(0, 3) = 2; first(0, 4) = 6; sit(4, 0, 0) = 3;
                faults(0, 1) = 3; faults(0, 0) = 0; reply(2, false) = 'n'; stateOf(0) = 'c'; sit(0, 0, 2) = 3;
                faults(0, 1) = 3; faults(0, 2) = 3; first(1, 1) = 6; first(1, 2) = 0; first(1, 3) = 1; first(1, 4) = 4
                """);
    }

    private static void honourAndFaults() {
        hold("The honour of a table's seats falls from the seat 0 on by numbers", EVENING + """
                faults(0, 0) = 1; faults(0, 1) = 2; faults(0, 2) = 0; swap(0, 2) = false; faults(0, 0) = 2;
                faults(0, 1) = 1; faults(0, 2) = 3; addTable('r', 10) = 2; sit(0, 2, 9) = 1; sit(2, 2, 4) = 2;
                faults(2, 0) = 1; faults(2, 1) = 0; faults(2, 2) = 1; sit(0, 2, 0) = 2; faults(2, 0) = 0; faults(2, 1) = 1;
                faults(2, 2) = 0; faults(0, 0) = 0
                """);
        hold("Faults of a table by a book are pairs of its guests", EVENING + """
                addTable('l', 4) = 2; sit(0, 2, 3) = 1; sit(2, 2, 2) = 2; sit(4, 2, 0) = 3; faults(2, 0) = 1;
                faults(2, 1) = 2; faults(2, 2) = 3; sit(6, 2, 1) = 4; faults(2, 0) = 3; faults(2, 1) = 4; faults(2, 2) = 5;
                rise(0) = 2; faults(2, 0) = 1; faults(2, 1) = 3; faults(2, 2) = 2; faults(1, 0) = 0; faults(0, 0) = 0
                """);
    }

    private static void dishes() {
        hold("As dishes are locked, the counts of those who come then are kept", EVENING + """
                without() = 0; reply(4, false) = 'n'; dishes(1) = 1; dishes(3) = 1; without() = 1; reply(2, false) = 'n';
                dishes(0) = 2; without() = 1; reply(5, false) = 'n'; coming() = 4; without() = 0; reply(7, true) = 'c';
                dishes(4) = 1; without() = 1; dishes(5) = throws.IllegalArgumentException;
                dishes(-1) = throws.IllegalArgumentException; rise(0) = 0; sit(0, 1, 1) = 2; without() = 1; lock() = 5;
                without() = 0; addTable('h', 5) = 2; reply(2, true) = 'c'; without() = 1; reply(4, true) = 'c';
                reply(5, true) = 'c'; without() = 3; lock() = 8; without() = 0; reply(0, false) = 'n'; without() = 0
                """);
        hold("who comes and is in excess of these for a dish goes without", """
                without() = 0; addTable('r', 4) = 0; addGuest(1, 1, 2, 1, 'b') = 0; reply(0, true) = 'c'; without() = 0;
                lock() = 1; addGuest(1, 1, 2, 1, 'b') = 1; addGuest(1, 1, 2, 1, 'b') = 2; without() = 0;
                reply(1, true) = 'c'; without() = 1; reply(2, true) = 'c'; without() = 2; reply(0, false) = 'n';
                without() = 1; reply(1, false) = 'n'; without() = 0; reply(2, false) = 'n'; without() = 0; lock() = 0;
                reply(0, true) = 'c'; without() = 1
                """);
    }

    private static void evenings() {
        StringBuilder twenty = new StringBuilder();
        for (int i = 2; i <= 20; i++) {
            twenty.append("keepEvening() = " + i + "; ");
        }
        hold("At most 20 are kept", EVENING + twenty + """
                keepEvening() = throws.IllegalStateException; met(0, 1) = 20; met(2, 0) = 20; met(1, 3) = 0; unmet() = 7;
                """ + checksum(0, 'c', 1, 'c', 2, 'c', 100, 'c', -1, 'c', -1, 'w', -1, 'w', -1, 'i', 7, 20));
        hold("two guests met if they sat at one table on an evening that was kept", EVENING + """
                met(0, 1) = 1; met(1, 0) = 1; met(0, 3) = 0; met(3, 4) = 0; met(4, 5) = 0; unmet() = 7;
                met(8, 8) = throws.IndexOutOfBoundsException; met(4, 4) = throws.IllegalArgumentException;
                sit(0, 1, 1) = 2; met(0, 3) = 0; unmet() = 7; keepEvening() = 2; met(0, 3) = 1; met(0, 1) = 1;
                met(1, 2) = 2; unmet() = 6; rise(0) = 1; met(0, 3) = 1; reply(0, false) = 'n'; met(0, 3) = 1;
                met(0, 1) = 1; unmet() = 9; reply(4, false) = 'n'; reply(6, false) = 'n'; reply(0, true) = 'c'; unmet() = 6;
                addGuest(1, 1, 0, 1, 'b') = 8; met(8, 0) = 0; met(0, 8) = 0; arrange(0) = 0; keepEvening() = 3; met(1, 2) = 3
                """);
    }

    // ---- Exceptions

    private static void exceptions() {
        holdUnchanged("A method that throws an exception changes nothing", EVENING, """
                addTable('x', 4) = throws.IllegalArgumentException; addTable('l', 5) = throws.IllegalArgumentException;
                addGuest(1, 1, 5, 1, 'b') = throws.IllegalArgumentException; reply(8, false) = throws.IndexOutOfBoundsException;
                sit(1, 1, 1) = throws.UnsupportedOperationException; sit(0, 0, 1) = throws.UnsupportedOperationException;
                sit(0, 2, 0) = throws.IndexOutOfBoundsException; sit(0, 1, 2) = throws.NoSuchElementException;
                rise(1) = throws.UnsupportedOperationException; rise(4) = throws.UnsupportedOperationException;
                swap(0, 1) = throws.UnsupportedOperationException; swap(0, 4) = throws.UnsupportedOperationException;
                swap(2, 2) = throws.UnsupportedOperationException; ink(1) = throws.UnsupportedOperationException;
                ink(4) = throws.UnsupportedOperationException; tear(0) = throws.UnsupportedOperationException;
                addCondition('b', 0, 0, 0) = throws.IllegalArgumentException; drop(4, true) = throws.IndexOutOfBoundsException;
                arrange(2) = throws.IndexOutOfBoundsException; moves(0) = throws.NoSuchElementException;
                quarrelAt(0, 1) = throws.NoSuchElementException; faults(0, 3) = throws.IllegalArgumentException;
                first(0, 5) = throws.NoSuchElementException; met(0, 0) = throws.IllegalArgumentException
                """);
        hold("the one that is documented first is thrown", EVENING + """
                sit(8, 2, 9) = throws.IndexOutOfBoundsException; sit(1, 2, 9) = throws.IndexOutOfBoundsException;
                sit(1, 1, 2) = throws.NoSuchElementException; way(2, 9, 9) = throws.IndexOutOfBoundsException;
                at(2, 9) = throws.IndexOutOfBoundsException; swap(8, 8) = throws.IndexOutOfBoundsException;
                addCondition('x', 8, 8, 99) = throws.IndexOutOfBoundsException;
                addCondition('x', 0, 0, 99) = throws.IllegalArgumentException;
                bestAt(2, 9) = throws.IndexOutOfBoundsException; isNeeded(2, 9) = throws.IndexOutOfBoundsException;
                quarrelAt(2, 9) = throws.IndexOutOfBoundsException; faults(2, 9) = throws.IndexOutOfBoundsException;
                first(9, 9) = throws.IllegalArgumentException; met(8, 8) = throws.IndexOutOfBoundsException
                """);
        StringBuilder eight = new StringBuilder("addTable('r', 8) = 0; ");
        for (int i = 0; i < 8; i++) {
            eight.append("addGuest(1, 1, 0, 1, 'b') = " + i + "; reply(" + i + ", true) = 'c'; ");
            eight.append(i == 0 ? "" : "sit(" + i + ", 0, " + i + ") = " + i + "; ");
        }
        hold("the one that is documented first is thrown", eight + """
                bestAt(0, 0) = throws.NoSuchElementException; bestAt(0, 1) = 1; sit(0, 0, 0) = 8;
                bestAt(0, 8) = throws.NoSuchElementException; bestAt(0, 0) = throws.UnsupportedOperationException;
                isNeeded(0, 0) = throws.IndexOutOfBoundsException; addCondition('d', 0, 1, 0) = 0;
                isNeeded(0, 0) = throws.UnsupportedOperationException; isNeeded(0, 1) = throws.IndexOutOfBoundsException;
                quarrelAt(0, 9) = throws.UnsupportedOperationException; moves(0) = throws.UnsupportedOperationException;
                rise(7) = 0; moves(0) = throws.NoSuchElementException; quarrelAt(0, 9) = throws.UnsupportedOperationException;
                rise(6) = 0; quarrelAt(0, 9) = throws.NoSuchElementException; quarrelAt(0, 0) = 0
                """);
    }
}
