import java.util.List;

/** The document's own examples: each row as it stands in the document, and once more as a program calls them. */
public final class DocExamplesTest {
    private static final Check check = new Check("DocExamplesTest");

    public static void main(String[] args) {
        asTheyStand();
        asCalled();
        check.end();
    }

    private static void asTheyStand() {
        List<String> examples = Document.examples();
        int[] rows = {5, 10, 10};
        check.due("how many examples the document has", examples.size(), rows.length);
        for (int i = 0; i < examples.size(); i++) {
            String text = examples.get(i);
            check.due("example " + (i + 1) + " ends with a stop", text.endsWith("."), true);
            int count = Rows.run(check, "example " + (i + 1), text.substring(0, text.length() - 1));
            check.due("how many rows example " + (i + 1) + " has", count, i < rows.length ? rows[i] : 0);
        }
    }

    private static void asCalled() {
        Placecard ways = new Placecard();
        check.due("addTable('r', 4)", ways.addTable('r', 4), 0);
        check.due("way(0, 0, 3)", ways.way(0, 0, 3), 1);
        check.due("way(0, 0, 2)", ways.way(0, 0, 2), 2);
        check.due("addTable('l', 4)", ways.addTable('l', 4), 1);
        check.due("way(1, 0, 3)", ways.way(1, 0, 3), 2);

        Placecard tongues = new Placecard();
        check.due("addTable('r', 3)", tongues.addTable('r', 3), 0);
        check.due("addGuest(1, 1, 0, 1, 'b')", tongues.addGuest(1, 1, 0, 1, 'b'), 0);
        check.due("addGuest(2, 2, 0, 2, 'b')", tongues.addGuest(2, 2, 0, 2, 'b'), 1);
        check.due("reply(0, true)", tongues.reply(0, true), 'c');
        check.due("reply(1, true)", tongues.reply(1, true), 'c');
        check.due("sit(0, 0, 0)", tongues.sit(0, 0, 0), 1);
        check.due("sit(1, 0, 1)", tongues.sit(1, 0, 1), 2);
        check.due("addCondition('s', 0, 1, 4)", tongues.addCondition('s', 0, 1, 4), 0);
        check.due("loss()", tongues.loss(), 4);
        check.due("bestLoss(0)", tongues.bestLoss(0), 4);

        Placecard ears = new Placecard();
        check.due("addTable('h', 2)", ears.addTable('h', 2), 0);
        check.due("addGuest(1, 1, 0, 1, 'l')", ears.addGuest(1, 1, 0, 1, 'l'), 0);
        check.due("addGuest(2, 2, 0, 1, 'b')", ears.addGuest(2, 2, 0, 1, 'b'), 1);
        check.due("reply(0, true)", ears.reply(0, true), 'c');
        check.due("reply(1, true)", ears.reply(1, true), 'c');
        check.due("sit(0, 0, 0)", ears.sit(0, 0, 0), 1);
        check.due("sit(1, 0, 1)", ears.sit(1, 0, 1), 2);
        check.due("addCondition('e', 0, 1, 0)", ears.addCondition('e', 0, 1, 0), 0);
        check.due("isBroken(0)", ears.isBroken(0), true);
        check.due("answers(0)", ears.answers(0), 1);
    }
}
