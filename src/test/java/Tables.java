/** Objects for the tests, and what can be seen of them. */
final class Tables {
    static final int NONE = AskedRules.NONE;
    static final int LEAST = Integer.MIN_VALUE;
    static final int MOST = Integer.MAX_VALUE;

    private Tables() {
    }

    /** A table of conditions with these answers, each of cost 1. */
    static AskedRules with(int... answers) {
        AskedRules x = new AskedRules();
        for (int k : answers) {
            x.addCondition(k, 1);
        }
        return x;
    }

    /** A table of one condition of two answers, with rows that have no place in common. */
    static AskedRules withRows(int rows) {
        AskedRules x = with(2);
        for (int i = 0; i < rows; i++) {
            x.addRow(1 + i % 2, i % 10);
        }
        return x;
    }

    static void append(AskedRules x, String text) {
        for (int i = 0; i < text.length(); i++) {
            x.type(text.charAt(i));
        }
    }

    static void write(AskedRules x, String text) {
        x.clearCommands();
        append(x, text);
    }

    static int run(AskedRules x, String text) {
        write(x, text);
        return x.runCommands();
    }

    /** The numbers of the rows in their order. */
    static String order(AskedRules x) {
        StringBuilder order = new StringBuilder();
        for (int place = 0; x.rowAt(place) != NONE; place++) {
            order.append(place > 0 ? " " : "").append(x.rowAt(place));
        }
        return order.toString();
    }

    /** Undoes all that can be undone; answers how often that was. */
    static int undoAll(AskedRules x) {
        for (int undone = 0; ; undone++) {
            try {
                x.undo();
            } catch (IllegalStateException e) {
                return undone;
            }
        }
    }

    /** The digests of the state and of all states that undo() brings back. */
    static String history(AskedRules x) {
        StringBuilder digests = new StringBuilder();
        for (int turn = 0; turn < 10; turn++) {
            digests.append(' ').append(x.digest());
            try {
                x.undo();
            } catch (IllegalStateException e) {
                return digests.toString();
            }
        }
        return "endless";
    }

    /** All that undo() brings back, as text. */
    static String seen(AskedRules x) {
        StringBuilder seen = new StringBuilder();
        int conditions = x.whole(0);
        seen.append(conditions).append(" conditions");
        for (int condition = 0; condition < conditions; condition++) {
            seen.append(' ').append(x.condition(condition, 0)).append('/').append(x.condition(condition, 1));
        }
        int rows = x.whole(2);
        seen.append(", ").append(x.whole(10)).append(" rows added");
        for (int place = 0; place < rows; place++) {
            int row = x.rowAt(place);
            seen.append(' ').append(row).append(':').append(x.row(row, 5)).append('>').append(x.row(row, 1));
        }
        return seen.toString();
    }

    /** What the rows of a table come to, as text. */
    static String workedOut(AskedRules x) {
        StringBuilder values = new StringBuilder();
        for (int what = 1; what <= 9; what++) {
            values.append(' ').append(x.whole(what));
        }
        return values.append(' ').append(x.ask(0)).append(' ').append(x.costFrom(0)).toString();
    }
}
