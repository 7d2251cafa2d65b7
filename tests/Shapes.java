import java.util.Arrays;
import java.util.List;

/** Every table that there can be, written out by hand: what seats lie how to each other. */
final class Shapes {
    // Each table, what seats are next to each other, what are opposite, and each seat before its right hand.
    static final String[][] ALL = {
        {"r2", "01", "", "01"},
        {"r3", "01 12 02", "", "01 12 20"},
        {"r4", "01 12 23 03", "", "01 12 23 30"},
        {"r5", "01 12 23 34 04", "", "01 12 23 34 40"},
        {"r6", "01 12 23 34 45 05", "", "01 12 23 34 45 50"},
        {"r7", "01 12 23 34 45 56 06", "", "01 12 23 34 45 56 60"},
        {"r8", "01 12 23 34 45 56 67 07", "", "01 12 23 34 45 56 67 70"},
        {"r9", "01 12 23 34 45 56 67 78 08", "", "01 12 23 34 45 56 67 78 80"},
        {"r10", "01 12 23 34 45 56 67 78 89 09", "", "01 12 23 34 45 56 67 78 89 90"},
        {"h2", "01", "", "01"},
        {"h3", "01 12", "", "01 12"},
        {"h4", "01 12 23", "", "01 12 23"},
        {"h5", "01 12 23 34", "", "01 12 23 34"},
        {"h6", "01 12 23 34 45", "", "01 12 23 34 45"},
        {"h7", "01 12 23 34 45 56", "", "01 12 23 34 45 56"},
        {"h8", "01 12 23 34 45 56 67", "", "01 12 23 34 45 56 67"},
        {"h9", "01 12 23 34 45 56 67 78", "", "01 12 23 34 45 56 67 78"},
        {"h10", "01 12 23 34 45 56 67 78 89", "", "01 12 23 34 45 56 67 78 89"},
        {"l2", "", "01", ""},
        {"l4", "01 23", "02 13", "01 23"},
        {"l6", "01 12 34 45", "03 14 25", "01 12 34 45"},
        {"l8", "01 12 23 45 56 67", "04 15 26 37", "01 12 23 45 56 67"},
        {"l10", "01 12 23 34 56 67 78 89", "05 16 27 38 49", "01 12 23 34 56 67 78 89"},
    };

    private Shapes() {
    }

    static int seatsOf(String[] table) {
        return Integer.parseInt(table[0].substring(1));
    }

    static boolean has(String pairs, int seat, int other) {
        return List.of(pairs.split(" ")).contains("" + seat + other);
    }

    static String reversed(String pairs) {
        return new StringBuilder(pairs).reverse().toString();
    }

    static String bothWays(String pairs) {
        return pairs + " " + reversed(pairs);
    }

    static boolean areNext(String[] table, int seat, int other) {
        return has(bothWays(table[1]), seat, other);
    }

    static boolean areOpposite(String[] table, int seat, int other) {
        return has(bothWays(table[2]), seat, other);
    }

    static boolean isRightHand(String[] table, int seat, int hand) {
        return has(table[3], seat, hand);
    }

    /** The steps from a seat to all others, going on from those that are reached. */
    static int[] stepsFrom(String[] table, int start) {
        int[] steps = new int[seatsOf(table)];
        Arrays.fill(steps, 99);
        steps[start] = 0;
        for (int round = 1; round < 10; round++) {
            for (int seat = 0; seat < steps.length; seat++) {
                for (int other = 0; other < steps.length; other++) {
                    boolean isStep = areNext(table, seat, other) || areOpposite(table, seat, other);
                    if (steps[seat] == round - 1 && isStep) {
                        steps[other] = Math.min(steps[other], round);
                    }
                }
            }
        }
        return steps;
    }
}
