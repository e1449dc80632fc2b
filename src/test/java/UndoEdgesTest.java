import java.math.BigInteger;

/** Promises 28 and 29, undo and exceptions: a test for each sentence that names a boundary case. */
public final class UndoEdgesTest {
    private static final Check check = new Check("UndoEdgesTest");
    private static final int NONE = Tables.NONE;

    /** A call on a table. */
    private interface Step {
        long on(AskedRules x);
    }

    /** Makes the same table each time. */
    private interface Maker {
        AskedRules make();
    }

    public static void main(String[] args) {
        undo();
        whatIsUndoable();
        whatIsNotUndoable();
        exceptions();
        digest();
        mostCalls();
        check.close();
    }

    // ---- tables, with three states that can be undone, the full one with four

    /** Rows 0 and 1 can be merged, row 2 is hidden by row 1. */
    private static AskedRules table() {
        AskedRules x = new AskedRules();
        x.addCondition(3, 2);
        x.addCondition(2, 5);
        Tables.run(x, "if 0,0>4;if 1,0>4;if 1,0>5;if 01,1>6;");
        Tables.write(x, "drop 2;if 2,->9;");
        return x;
    }

    /** No rows can be merged, all are needed, and the text would do nothing. */
    private static AskedRules tableAtRest() {
        AskedRules x = new AskedRules();
        x.addCondition(2, 1);
        x.addCondition(2, 1);
        Tables.run(x, "if 0,->1;if -,->2;");
        Tables.write(x, "up 0;merge;");
        return x;
    }

    /** All conditions and rows that there can be. */
    private static AskedRules tableOfAllRows() {
        AskedRules x = Tables.with(4, 4, 4, 4, 4);
        for (int i = 0; i < 19; i++) {
            x.addRow(0xfffff ^ 1 << i, i % 10);
        }
        x.addRow(0x84218, 9);
        Tables.append(x, "merge;");
        return x;
    }

    /** The same with all bytes of the text. */
    private static AskedRules fullTable() {
        AskedRules x = tableOfAllRows();
        for (int length = 6; length < 150; length++) {
            x.type(' ');
        }
        return x;
    }

    // ---- promise 28

    private static void undo() {
        emptyStack();
        statesThatAreLeft();
        latestFourAreKept();
        savedAgainAfterUndo();
        questionsAfterUndo();
        undoIsNotUndone();
    }

    private static void emptyStack() {
        check.about("undo: IllegalStateException if the stack is empty");
        AskedRules x = new AskedRules();
        check.state("a new object", () -> x.undo());
        check.state("again", () -> x.undo());
        x.mergeAll();
        check.due("one state", 0, () -> x.undo());
        check.state("empty again", () -> x.undo());
        x.type('a');
        check.state("typing saves none", () -> x.undo());
    }

    private static void statesThatAreLeft() {
        check.about("undo: Returns the number of states that are left on the stack");
        for (int states = 1; states <= 4; states++) {
            AskedRules x = new AskedRules();
            for (int i = 0; i < states; i++) {
                x.addRow(0, i);
            }
            for (int left = states - 1; left >= 0; left--) {
                int want = left;
                check.due("left", want, () -> x.undo());
                check.due("rows", want, () -> x.whole(2));
            }
            check.state("none is left", () -> x.undo());
        }
    }

    private static void latestFourAreKept() {
        check.about("The stack keeps the latest 4 saved states and drops older ones");
        for (int calls : new int[] {4, 5, 6, 8, 9, 17}) {
            AskedRules x = new AskedRules();
            for (int i = 0; i < calls; i++) {
                x.addRow(0, i % 10);
            }
            for (int left = 3; left >= 0; left--) {
                int want = left;
                check.due("left", want, () -> x.undo());
                check.due("rows", calls - 4 + want, () -> x.whole(2));
                check.due("added", calls - 4 + want, () -> x.whole(10));
            }
            check.state("no fifth one", () -> x.undo());
            check.due("rows", calls - 4, () -> x.whole(2));
        }
    }

    private static void savedAgainAfterUndo() {
        check.about("undo: Restores the latest saved state and removes it from the undo stack");
        AskedRules x = new AskedRules();
        for (int i = 0; i < 6; i++) {
            x.addRow(0, i);
        }
        x.undo();
        x.undo();
        x.setAction(3, 9);
        x.setAction(0, 8);
        x.setAction(1, 7);
        check.due("left", 3, () -> x.undo());
        check.due("left", 2, () -> x.undo());
        check.due("action of 0 is as before", 0, () -> x.row(0, 1));
        check.due("action of 3 not yet", 9, () -> x.row(3, 1));
        check.due("left", 1, () -> x.undo());
        check.due("action of 3 is as before", 3, () -> x.row(3, 1));
        check.due("left", 0, () -> x.undo());
        check.due("rows, as an older state was dropped", 3, () -> x.whole(2));
        check.state("no more", () -> x.undo());
    }

    private static void questionsAfterUndo() {
        check.about("undo: Restores the latest saved state: what is worked out from it, too");
        AskedRules x = new AskedRules();
        x.addCondition(2, 3);
        x.addRow(1, 7);
        check.due("worst cost", 3, () -> x.whole(7));
        check.due("best action", 7, () -> x.bestAction(1));
        x.addRow(2, 7);
        check.due("worst cost with another row", 0, () -> x.whole(7));
        check.due("no hole", NONE, () -> x.bestAction(1));
        x.undo();
        check.due("question after undo", 0, () -> x.ask(0));
        check.due("cost after undo", 3, () -> x.costFrom(0));
        check.due("worst cost after undo", 3, () -> x.whole(7));
        check.due("best action after undo", 7, () -> x.bestAction(1));
        x.undo();
        check.due("no question after undo", NONE, () -> x.whole(8));
        x.undo();
        check.index("no such case after undo", () -> x.caseOf(1, 1));
    }

    private static void undoIsNotUndone() {
        check.about("undo: is not marked undoable");
        AskedRules x = new AskedRules();
        x.addRow(0, 1);
        x.addRow(0, 2);
        check.due("left", 1, () -> x.undo());
        check.due("left", 0, () -> x.undo());
        check.due("rows", 0, () -> x.whole(2));
    }

    // ---- what is undoable

    private static void whatIsUndoable() {
        Maker table = () -> table();
        saves("addCondition()", table, x -> x.addCondition(4, 9));
        saves("setCost()", table, x -> x.setCost(1, 9));
        saves("addRow()", table, x -> x.addRow(0x37, 0));
        saves("setAnswers()", table, x -> x.setAnswers(3, 0, 5));
        saves("setAction()", table, x -> x.setAction(0, 0));
        saves("dropRow() of the first row", table, x -> x.dropRow(0));
        saves("dropRow() of the last row", table, x -> x.dropRow(3));
        saves("moveUp()", table, x -> x.moveUp(3));
        saves("merge()", table, x -> x.merge(0));
        saves("mergeAll()", table, x -> x.mergeAll());
        saves("prune()", table, x -> x.prune());
        saves("runCommands()", table, x -> x.runCommands());
        Maker atRest = () -> tableAtRest();
        saves("setCost(), also if it changes nothing", atRest, x -> x.setCost(1, 1));
        saves("setAnswers(), also if it changes nothing", atRest, x -> x.setAnswers(1, 0, 3));
        saves("setAction(), also if it changes nothing", atRest, x -> x.setAction(0, 1));
        saves("mergeAll(), also if it changes nothing", atRest, x -> x.mergeAll());
        saves("prune(), also if it changes nothing", atRest, x -> x.prune());
        saves("runCommands(), also if it changes nothing", atRest, x -> x.runCommands());
        fullStack("dropRow()", x -> x.dropRow(0));
        fullStack("moveUp()", x -> x.moveUp(19));
        fullStack("setCost()", x -> x.setCost(4, 9));
        fullStack("setAnswers()", x -> x.setAnswers(19, 4, 15));
        fullStack("setAction()", x -> x.setAction(19, 0));
        fullStack("mergeAll()", x -> x.mergeAll());
        fullStack("prune()", x -> x.prune());
        fullStack("runCommands()", x -> x.runCommands());
    }

    private static void saves(String call, Maker maker, Step step) {
        check.about("Undoable: saves the whole state, the one from before the call: " + call);
        comesBack(maker, step);
        check.about("The stack keeps the latest 4 saved states and drops older ones: " + call);
        comesBack(() -> {
            AskedRules four = maker.make();
            four.setCost(0, four.condition(0, 1));
            return four;
        }, step);
    }

    private static void fullStack(String call, Step step) {
        check.about("The stack keeps the latest 4 saved states, of 20 rows, too: " + call);
        comesBack(() -> tableOfAllRows(), step);
    }

    /** Wants tables with three states or four: after one call more, four can be undone. */
    private static void comesBack(Maker maker, Step step) {
        AskedRules x = maker.make();
        AskedRules y = maker.make();
        step.on(x);
        Tables.workedOut(x);
        for (int left = 3; left >= 0; left--) {
            int want = left;
            check.due("left", want, () -> x.undo());
            check.same("worked out when " + left + " are left", Tables.workedOut(y), Tables.workedOut(x));
            check.same("the table when " + left + " are left", Tables.seen(y), Tables.seen(x));
            check.due("length of the text", y.whole(11), () -> x.whole(11));
            if (left > 0) {
                y.undo();
            }
        }
        check.state("no more", () -> x.undo());
    }

    private static void whatIsNotUndoable() {
        check.about("Every method that is marked \"undoable\" saves, and no other one");
        Step[] steps = {
            x -> x.condition(0, 2), x -> x.row(0, 3), x -> x.answers(0, 0), x -> x.rowAt(0), x -> x.caseOf(0, 3),
            x -> x.answerOf(0, 0), x -> x.hole(0), x -> x.whole(7), x -> x.reason(0), x -> x.ask(0),
            x -> x.costFrom(0), x -> x.changedWithout(0), x -> x.bestAction(x.hole(0)), x -> x.digest()
        };
        for (int i = 0; i < steps.length; i++) {
            AskedRules x = table();
            steps[i].on(x);
            steps[i].on(x);
            check.same("what can be undone after call " + i, Tables.history(table()), Tables.history(x));
        }
        Step[] texts = {x -> x.type('x'), x -> x.clearCommands(), x -> Tables.run(x, "if 0,0>1;x")};
        for (int i = 0; i < texts.length; i++) {
            AskedRules x = table();
            texts[i].on(x);
            check.due("rows after text " + i, 4, () -> x.whole(2));
            check.due("left after text " + i, 2, () -> x.undo());
            check.due("rows then", 0, () -> x.whole(2));
        }
    }

    // ---- exceptions

    private static void exceptions() {
        throwingChangesNothing();
        throwingWhenFullChangesNothing();
        firstListedIsThrown();
        noneOnlyWithoutAnException();
    }

    private static void refuses(String call, Maker maker, Step step) {
        AskedRules x = maker.make();
        AskedRules twin = maker.make();
        check.same(call, "throws.", (Check.outcome(() -> step.on(x)) + "       ").substring(0, 7));
        check.due("digest after " + call, twin.digest(), () -> x.digest());
        check.due("text after " + call, twin.runCommands(), () -> x.runCommands());
        check.same("what can be undone after " + call, Tables.history(twin), Tables.history(x));
    }

    private static void throwingChangesNothing() {
        check.about("A call that throws an exception changes nothing");
        Step[] steps = {
            x -> x.addCondition(1, 1), x -> x.addCondition(5, 1), x -> x.addCondition(2, 0), x -> x.addCondition(2, 10),
            x -> x.setCost(2, 1), x -> x.setCost(-1, 1), x -> x.setCost(0, 0), x -> x.setCost(1, 10),
            x -> x.addRow(0x11, 10), x -> x.addRow(0x11, -1), x -> x.addRow(-1, 1), x -> x.addRow(0x10, 1),
            x -> x.addRow(0x18, 1), x -> x.addRow(0x111, 1), x -> x.setAnswers(4, 0, 1), x -> x.setAnswers(0, 2, 1),
            x -> x.setAnswers(0, 0, 0), x -> x.setAnswers(0, 0, 8), x -> x.setAnswers(0, 1, -1),
            x -> x.setAction(4, 1), x -> x.setAction(0, 10), x -> x.setAction(0, -1), x -> x.dropRow(4),
            x -> x.dropRow(-1), x -> x.moveUp(4), x -> x.moveUp(0), x -> x.merge(4), x -> x.merge(1), x -> x.merge(2),
            x -> x.merge(3), x -> x.condition(2, 0), x -> x.condition(0, 3), x -> x.row(4, 0), x -> x.row(0, 6),
            x -> x.answers(4, 0), x -> x.answers(0, 2), x -> x.rowAt(-1), x -> x.caseOf(6, 0), x -> x.caseOf(0, 5),
            x -> x.answerOf(6, 0), x -> x.answerOf(0, 2), x -> x.hole(-1), x -> x.whole(12), x -> x.reason(4),
            x -> x.ask(4), x -> x.ask(-1), x -> x.costFrom(0x100), x -> x.changedWithout(4), x -> x.bestAction(6),
            x -> x.type(-1), x -> x.type(128)
        };
        for (int i = 0; i < steps.length; i++) {
            refuses("call " + i, () -> table(), steps[i]);
        }
        refuses("undo()", () -> new AskedRules(), x -> x.undo());
    }

    private static void throwingWhenFullChangesNothing() {
        check.about("A call that throws an exception changes nothing: when it is full");
        Step[] steps = {
            x -> x.addCondition(2, 1), x -> x.addRow(0x11111, 1), x -> x.type('a'), x -> x.moveUp(0),
            x -> x.merge(0), x -> x.merge(20), x -> x.row(21, 0), x -> x.caseOf(1024, 0), x -> x.bestAction(1024)
        };
        for (int i = 0; i < steps.length; i++) {
            refuses("call " + i, () -> fullTable(), steps[i]);
        }
    }

    private static void firstListedIsThrown() {
        check.about("If several exceptions of a method apply, the one that is listed first is thrown");
        AskedRules x = fullTable();
        check.argument("addCondition", () -> x.addCondition(5, 10));
        check.index("setCost", () -> x.setCost(5, 0));
        check.argument("addRow", () -> x.addRow(0x11111, 10));
        check.argument("addRow", () -> x.addRow(0x1111, 1));
        check.index("setAnswers, row", () -> x.setAnswers(20, 0, 0));
        check.index("setAnswers, condition", () -> x.setAnswers(0, 5, 0));
        check.index("setAction", () -> x.setAction(20, 10));
        check.index("condition", () -> x.condition(5, 3));
        check.index("row", () -> x.row(20, 6));
        check.index("caseOf", () -> x.caseOf(1024, 5));
        check.argument("type", () -> x.type(128));
    }

    private static void noneOnlyWithoutAnException() {
        check.about("NONE is returned only if no exception applies");
        AskedRules x = new AskedRules();
        check.due("rowAt", NONE, () -> x.rowAt(0));
        check.argument("rowAt", () -> x.rowAt(-1));
        check.due("caseOf", NONE, () -> x.caseOf(0, 0));
        check.argument("caseOf", () -> x.caseOf(0, -1));
        check.index("caseOf", () -> x.caseOf(1, 0));
        check.due("whole", NONE, () -> x.whole(8));
        check.argument("whole", () -> x.whole(12));
        check.due("ask", NONE, () -> x.ask(0));
        check.argument("ask", () -> x.ask(1));
        check.argument("ask", () -> x.ask(-1));
        x.addRow(0, 1);
        check.due("hole", NONE, () -> x.hole(0));
        check.argument("hole", () -> x.hole(-1));
        check.due("bestAction", NONE, () -> x.bestAction(0));
        check.index("bestAction", () -> x.bestAction(1));
        check.index("bestAction", () -> x.bestAction(-1));
        check.due("the constant", -1, AskedRules.NONE);
    }

    // ---- promise 29

    private static void digest() {
        digestOf("a new object", () -> new AskedRules(), 0);
        digestOf("a table", () -> table(), 3);
        digestOf("a table at rest", () -> tableAtRest(), 3);
        digestOf("a full table", () -> fullTable(), 4);
        digestOf("twenty rows without conditions", () -> {
            AskedRules x = new AskedRules();
            for (int i = 0; i < 20; i++) {
                x.addRow(0, i / 3);
            }
            return x;
        }, 4);
        digestOf("five conditions without rows", () -> Tables.with(4, 4, 4, 4, 4), 4);
        digestOfOtherStates();
        digestOfOtherTexts();
        digestChangesNothing();
    }

    /** Asks equal tables, one after the other, so that none gets more calls than the document allows. */
    private static final class Asker {
        private final Maker maker;
        private AskedRules x;
        private int calls;
        private BigInteger hash = BigInteger.valueOf(43870);

        Asker(Maker maker) {
            this.maker = maker;
        }

        void add(long value) {
            hash = hash.multiply(BigInteger.valueOf(31)).add(BigInteger.valueOf(value));
        }

        int ask(Step step) {
            if (x == null || calls >= 150) {
                x = maker.make();
                calls = 0;
            }
            calls++;
            return (int) step.on(x);
        }

        void addAnswer(Step step) {
            add(ask(step));
        }
    }

    private static void digestOf(String what, Maker maker, int states) {
        check.about("digest: h becomes 31 * h + v (long arithmetic, overflow wraps): " + what);
        Asker asker = new Asker(maker);
        asker.add(states);
        for (int i = 0; i <= 11; i++) {
            int which = i;
            asker.addAnswer(x -> x.whole(which));
        }
        int conditions = asker.ask(x -> x.whole(0));
        for (int c = 0; c < conditions; c++) {
            for (int i = 0; i <= 2; i++) {
                int condition = c;
                int which = i;
                asker.addAnswer(x -> x.condition(condition, which));
            }
        }
        int rows = asker.ask(x -> x.whole(2));
        for (int p = 0; p < rows; p++) {
            int place = p;
            asker.addAnswer(x -> x.rowAt(place));
            for (int i = 0; i <= 5; i++) {
                int which = i;
                asker.addAnswer(x -> x.row(x.rowAt(place), which));
            }
        }
        int cases = asker.ask(x -> x.whole(1));
        for (int n = 0; n < cases; n++) {
            for (int i = 1; i <= 3; i++) {
                int number = n;
                int which = i;
                asker.addAnswer(x -> x.caseOf(number, which));
            }
        }
        check.due("digest", asker.hash.longValue(), () -> maker.make().digest());
        check.due("it did wrap", 1, asker.hash.bitLength() > 64 ? 1 : 0);
    }

    private static void digestOfOtherStates() {
        check.about("digest: the number of states on the undo stack");
        AskedRules x = new AskedRules();
        AskedRules y = new AskedRules();
        for (int states = 0; states < 4; states++) {
            check.due("the same with " + states, x.digest(), () -> y.digest());
            x.prune();
            check.due("another with one more", 1, x.digest() != y.digest() ? 1 : 0);
            y.prune();
        }
        x.prune();
        check.due("no more than 4", x.digest(), () -> y.digest());
    }

    private static void digestOfOtherTexts() {
        check.about("digest: of the command text, the length alone counts");
        AskedRules x = new AskedRules();
        AskedRules y = new AskedRules();
        x.type('m');
        check.due("unlike lengths", 1, x.digest() != y.digest() ? 1 : 0);
        y.type(0);
        check.due("like lengths", x.digest(), () -> y.digest());
    }

    private static void digestChangesNothing() {
        check.about("digest: Returns a hash of the state");
        AskedRules x = table();
        long first = x.digest();
        for (int i = 0; i < 5; i++) {
            check.due("again", first, () -> x.digest());
        }
        check.due("of an equal table", first, () -> table().digest());
        check.same("what can be undone", Tables.history(table()), Tables.history(x));
    }

    // ---- calls of an object

    private static void mostCalls() {
        check.about("An object is used for at most 512 calls after it has been made");
        AskedRules x = new AskedRules();
        x.addCondition(4, 1);
        for (int i = 0; i < 254; i++) {
            x.addRow(1 << i % 4, i % 10);
            x.dropRow(i);
        }
        check.due("call 510", 254, () -> x.addRow(15, 3));
        check.due("call 511", 255, () -> x.whole(10));
        check.due("call 512", 3, () -> x.undo());
        AskedRules typed = new AskedRules();
        for (int i = 0; i < 510; i++) {
            if (i % 151 == 150) {
                typed.clearCommands();
            } else {
                typed.type(' ');
            }
        }
        check.due("call 511", 58, () -> typed.type(' '));
        check.due("call 512", 0, () -> typed.runCommands());
    }
}
