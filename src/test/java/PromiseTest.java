/** For each promise: ordinary inputs, the edges that the document names, and wrong inputs. */
public final class PromiseTest {
    private static final Check check = new Check("PromiseTest");

    public static void main(String[] args) {
        newObject();
        addCondition();
        setCost();
        addRow();
        addRowNumbers();
        setAnswers();
        setAction();
        dropRow();
        moveUp();
        merge();
        mergeAll();
        prune();
        condition();
        row();
        answers();
        rowAt();
        caseOf();
        answerOf();
        hole();
        whole();
        worstCost();
        reason();
        ask();
        costFrom();
        changedWithout();
        bestAction();
        type();
        clearCommands();
        runCommands();
        faults();
        commandsThatStop();
        undo();
        undoOfEach();
        digest();
        throwingChangesNothing();
        check.close();
    }

    // ---- helpers

    private static void runs(String text, int want, int... answers) {
        AskedRules x = Tables.with(answers);
        Tables.write(x, text);
        check.due("runCommands of '" + text + "'", want, () -> x.runCommands());
    }

    private static void faultAt(String text, int fault, int... answers) {
        AskedRules x = Tables.with(answers);
        Tables.write(x, text);
        long before = x.digest();
        check.due("runCommands of '" + text + "'", -10 - fault, () -> x.runCommands());
        check.due("digest after the fault of '" + text + "'", before, () -> x.digest());
    }

    private static void order(AskedRules x, int... rows) {
        for (int place = 0; place < rows.length; place++) {
            int at = place;
            check.due("rowAt(" + at + ")", rows[at], () -> x.rowAt(at));
        }
        check.due("rowAt behind the last", -1, () -> x.rowAt(rows.length));
        check.due("rows", rows.length, () -> x.whole(2));
    }

    // ---- promises 1 to 11

    private static void newObject() {
        AskedRules x = new AskedRules();
        int[] want = {0, 1, 0, 1, 0, 0, 0, 0, -1, 1, 0, 0};
        for (int what = 0; what < want.length; what++) {
            int w = what;
            check.due("new: whole(" + w + ")", want[w], () -> x.whole(w));
        }
        check.due("new: rowAt(0)", -1, () -> x.rowAt(0));
        check.due("new: clearCommands", 0, () -> x.clearCommands());
        check.state("new: undo", () -> x.undo());
        check.due("NONE", -1, AskedRules.NONE);
        AskedRules y = new AskedRules();
        y.addCondition(2, 2);
        check.due("another object", 0, () -> x.whole(0));
    }

    private static void addCondition() {
        AskedRules x = new AskedRules();
        check.argument("answers 1", () -> x.addCondition(1, 1));
        check.argument("answers 5", () -> x.addCondition(5, 1));
        check.argument("cost 0", () -> x.addCondition(2, 0));
        check.argument("cost 10", () -> x.addCondition(4, 10));
        check.argument("far out", () -> x.addCondition(Integer.MIN_VALUE, Integer.MAX_VALUE));
        x.addRow(0, 3);
        check.due("first", 0, () -> x.addCondition(2, 9));
        check.due("its rows", 3, () -> x.answers(0, 0));
        x.setAnswers(0, 0, 1);
        check.due("second", 1, () -> x.addCondition(3, 1));
        check.due("its sets", 0x71, () -> x.row(0, 5));
        check.due("third", 2, () -> x.addCondition(4, 5));
        check.due("its sets", 0xf71, () -> x.row(0, 5));
        check.due("answers", 4, () -> x.condition(2, 0));
        check.due("cost", 5, () -> x.condition(2, 1));
        x.addCondition(2, 1);
        check.due("fifth", 4, () -> x.addCondition(2, 1));
        check.state("sixth", () -> x.addCondition(2, 1));
        check.argument("sixth, and wrong", () -> x.addCondition(2, 10));
        check.due("conditions", 5, () -> x.whole(0));
        check.due("undo", 3, () -> x.undo());
        check.due("conditions after undo", 4, () -> x.whole(0));
        check.due("sets after undo", 0x3f71, () -> x.row(0, 5));
        AskedRules full = new AskedRules();
        for (int i = 0; i < 20; i++) {
            full.addRow(0, i % 10);
        }
        check.due("with twenty rows", 0, () -> full.addCondition(4, 1));
        check.due("sets of the last", 15, () -> full.row(19, 5));
        check.due("cases of the last", 4, () -> full.row(19, 2));
        check.due("needed rows", 1, () -> full.whole(6));
        check.index("no row", () -> full.row(20, 5));
    }

    private static void setCost() {
        AskedRules x = Tables.with(2, 3);
        check.index("no condition", () -> x.setCost(2, 1));
        check.index("negative", () -> x.setCost(-1, 1));
        check.index("no condition and wrong", () -> x.setCost(2, 0));
        check.argument("0", () -> x.setCost(1, 0));
        check.argument("10", () -> x.setCost(1, 10));
        check.due("previous", 1, () -> x.setCost(1, 9));
        check.due("previous", 9, () -> x.setCost(1, 1));
        check.due("previous", 1, () -> x.setCost(0, 4));
        check.due("cost", 4, () -> x.condition(0, 1));
        check.due("cost", 1, () -> x.condition(1, 1));
        x.addRow(0x11, 1);
        check.due("worst cost", 5, () -> x.whole(7));
        x.setCost(1, 3);
        check.due("worst cost then", 7, () -> x.whole(7));
        x.undo();
        check.due("worst cost after undo", 5, () -> x.whole(7));
    }

    private static void addRow() {
        AskedRules x = new AskedRules();
        check.argument("sets without conditions", () -> x.addRow(1, 0));
        check.due("first", 0, () -> x.addRow(0, 9));
        x.dropRow(0);
        x.addCondition(3, 1);
        x.addCondition(2, 1);
        check.argument("action -1", () -> x.addRow(0x11, -1));
        check.argument("action 10", () -> x.addRow(0x11, 10));
        check.argument("negative", () -> x.addRow(-1, 0));
        check.argument("negative, low bits right", () -> x.addRow(Integer.MIN_VALUE | 0x11, 0));
        check.argument("empty", () -> x.addRow(0x10, 0));
        check.argument("empty", () -> x.addRow(0x01, 0));
        check.argument("no answer", () -> x.addRow(0x18, 0));
        check.argument("no answer", () -> x.addRow(0x41, 0));
        check.argument("no condition", () -> x.addRow(0x111, 0));
        check.argument("no condition", () -> x.addRow(0x40000011, 0));
        check.due("next", 1, () -> x.addRow(0x37, 0));
        check.due("sets", 0x37, () -> x.row(1, 5));
        check.due("action", 0, () -> x.row(1, 1));
        check.due("next", 2, () -> x.addRow(0x24, 9));
        check.due("action", 9, () -> x.row(2, 1));
        order(x, 1, 2);
        AskedRules full = Tables.with(4, 4, 4, 4, 4);
        check.due("all answers of five", 0, () -> full.addRow(0xfffff, 1));
        check.argument("beyond five", () -> full.addRow(0x1fffff, 1));
    }

    private static void addRowNumbers() {
        AskedRules x = Tables.with(2);
        for (int i = 0; i < 20; i++) {
            int number = i;
            check.due("row", number, () -> x.addRow(1, 1));
        }
        check.state("too many", () -> x.addRow(1, 1));
        check.argument("too many and wrong", () -> x.addRow(0, 1));
        x.dropRow(19);
        check.due("numbers are not used again", 20, () -> x.addRow(2, 2));
        check.due("added", 21, () -> x.whole(10));
        x.undo();
        x.undo();
        check.due("but by undo()", 20, () -> x.whole(10));
        x.dropRow(0);
        check.due("but by undo()", 20, () -> x.addRow(2, 2));
        check.due("place", 19, () -> x.row(20, 0));
    }

    private static void setAnswers() {
        AskedRules x = Tables.with(2, 3, 4);
        x.addRow(0x111, 1);
        check.index("no row", () -> x.setAnswers(1, 0, 1));
        check.index("no row", () -> x.setAnswers(-1, 0, 1));
        check.index("no condition", () -> x.setAnswers(0, 3, 1));
        check.index("no condition", () -> x.setAnswers(0, -1, 1));
        check.index("no condition and wrong", () -> x.setAnswers(0, 3, 0));
        check.argument("empty", () -> x.setAnswers(0, 1, 0));
        check.argument("negative", () -> x.setAnswers(0, 1, -1));
        check.argument("negative", () -> x.setAnswers(0, 1, Integer.MIN_VALUE + 1));
        check.argument("no answer", () -> x.setAnswers(0, 1, 8));
        check.argument("no answer", () -> x.setAnswers(0, 0, 5));
        check.argument("no answer", () -> x.setAnswers(0, 2, 16));
        check.due("previous", 1, () -> x.setAnswers(0, 1, 6));
        check.due("sets", 0x161, () -> x.row(0, 5));
        check.due("previous", 6, () -> x.setAnswers(0, 1, 7));
        check.due("previous", 1, () -> x.setAnswers(0, 2, 15));
        check.due("previous", 1, () -> x.setAnswers(0, 0, 2));
        check.due("sets", 0xf72, () -> x.row(0, 5));
        check.due("cases", 12, () -> x.row(0, 2));
        check.due("undo", 3, () -> x.undo());
        check.due("sets", 0xf71, () -> x.row(0, 5));
    }

    private static void setAction() {
        AskedRules x = Tables.with(2);
        x.addRow(1, 4);
        x.addRow(2, 5);
        check.index("no row", () -> x.setAction(2, 1));
        check.index("no row", () -> x.setAction(-1, 1));
        check.index("no row and wrong", () -> x.setAction(2, 10));
        check.argument("10", () -> x.setAction(0, 10));
        check.argument("-1", () -> x.setAction(0, -1));
        check.due("previous", 5, () -> x.setAction(1, 9));
        check.due("previous", 9, () -> x.setAction(1, 0));
        check.due("action", 0, () -> x.row(1, 1));
        check.due("action of the other", 4, () -> x.row(0, 1));
        check.due("action of its case", 0, () -> x.caseOf(1, 1));
        x.undo();
        check.due("action of its case after undo", 9, () -> x.caseOf(1, 1));
    }

    private static void dropRow() {
        AskedRules x = Tables.with(2);
        for (int i = 0; i < 4; i++) {
            x.addRow(3, i);
        }
        check.index("no row", () -> x.dropRow(4));
        check.index("no row", () -> x.dropRow(-1));
        check.due("place", 1, () -> x.dropRow(1));
        check.index("it is gone", () -> x.dropRow(1));
        order(x, 0, 2, 3);
        check.due("place", 2, () -> x.dropRow(3));
        check.index("the last one is gone", () -> x.dropRow(3));
        check.due("place", 0, () -> x.dropRow(0));
        order(x, 2);
        check.due("action", 2, () -> x.caseOf(1, 1));
        x.dropRow(2);
        check.due("hole", 10, () -> x.caseOf(1, 1));
        check.due("added", 4, () -> x.whole(10));
        x.undo();
        order(x, 2);
    }

    private static void moveUp() {
        AskedRules x = Tables.with(2);
        x.addRow(1, 5);
        x.addRow(2, 6);
        x.addRow(3, 7);
        check.index("no row", () -> x.moveUp(3));
        check.index("no row", () -> x.moveUp(-1));
        check.state("first", () -> x.moveUp(0));
        check.due("place", 1, () -> x.moveUp(2));
        order(x, 0, 2, 1);
        check.due("place", 0, () -> x.moveUp(2));
        order(x, 2, 0, 1);
        check.state("first now", () -> x.moveUp(2));
        check.due("sets", 3, () -> x.row(2, 5));
        check.due("sets", 1, () -> x.row(0, 5));
        check.due("action", 7, () -> x.caseOf(0, 1));
        x.undo();
        order(x, 0, 2, 1);
        check.due("action", 5, () -> x.caseOf(0, 1));
    }

    private static void merge() {
        AskedRules x = Tables.with(3, 2);
        x.addRow(0x11, 1);
        x.addRow(0x12, 1);
        x.addRow(0x24, 1);
        x.addRow(0x24, 2);
        x.addRow(0x24, 2);
        check.index("no row", () -> x.merge(5));
        check.index("no row", () -> x.merge(-1));
        check.state("no next one", () -> x.merge(4));
        check.state("actions are unlike", () -> x.merge(2));
        check.state("two sets are unlike", () -> x.merge(1));
        check.due("gone", 1, () -> x.merge(0));
        check.due("union", 0x13, () -> x.row(0, 5));
        order(x, 0, 2, 3, 4);
        check.due("gone, all sets alike", 4, () -> x.merge(3));
        check.due("union", 0x24, () -> x.row(3, 5));
        order(x, 0, 2, 3);
        x.setAnswers(2, 0, 3);
        check.due("gone, by the other condition", 2, () -> x.merge(0));
        check.due("union", 0x33, () -> x.row(0, 5));
        order(x, 0, 3);
        x.undo();
        order(x, 0, 2, 3);
        AskedRules none = new AskedRules();
        none.addRow(0, 4);
        none.addRow(0, 4);
        none.addRow(0, 5);
        check.due("without conditions", 1, () -> none.merge(0));
        check.state("without conditions, unlike actions", () -> none.merge(0));
    }

    private static void mergeAll() {
        AskedRules x = Tables.with(4, 2);
        check.due("no rows", 0, () -> x.mergeAll());
        x.addRow(0x11, 1);
        x.addRow(0x12, 1);
        x.addRow(0x21, 1);
        x.addRow(0x22, 1);
        x.addRow(0x34, 2);
        check.due("gone", 3, () -> x.mergeAll());
        order(x, 0, 4);
        check.due("sets", 0x33, () -> x.row(0, 5));
        check.due("sets", 0x34, () -> x.row(4, 5));
        x.undo();
        order(x, 0, 1, 2, 3, 4);
        x.undo();
        check.due("undo of one", 4, () -> x.whole(2));
        // the first pair goes first: 0 with 1, and what comes of it cannot be merged with 2
        AskedRules y = Tables.with(2, 2);
        y.addRow(0x11, 1);
        y.addRow(0x12, 1);
        y.addRow(0x22, 1);
        check.due("gone, the first pair first", 1, () -> y.mergeAll());
        order(y, 0, 2);
        check.due("sets", 0x13, () -> y.row(0, 5));
        // a merge further down opens the way for one in front of it
        AskedRules z = Tables.with(2, 2);
        z.addRow(0x13, 1);
        z.addRow(0x21, 1);
        z.addRow(0x22, 1);
        check.due("gone, from behind", 2, () -> z.mergeAll());
        check.due("sets", 0x33, () -> z.row(0, 5));
        AskedRules full = new AskedRules();
        for (int i = 0; i < 20; i++) {
            full.addRow(0, 6);
        }
        check.due("all of twenty", 19, () -> full.mergeAll());
        order(full, 0);
    }

    private static void prune() {
        AskedRules x = Tables.with(3);
        check.due("no rows", 0, () -> x.prune());
        x.addRow(3, 1);
        x.addRow(2, 2);
        x.addRow(6, 1);
        x.addRow(7, 3);
        x.addRow(4, 4);
        check.due("removed", 3, () -> x.prune());
        order(x, 0, 2);
        check.due("removed then", 0, () -> x.prune());
        check.due("all are needed", 2, () -> x.whole(6));
        check.due("undo", 3, () -> x.undo());
        check.due("undo", 2, () -> x.undo());
        order(x, 0, 1, 2, 3, 4);
        check.due("needed", 2, () -> x.whole(6));
    }

    // ---- promises 12 to 19

    private static void condition() {
        AskedRules x = Tables.with(2, 4, 3);
        check.index("no condition", () -> x.condition(3, 0));
        check.index("no condition", () -> x.condition(-1, 0));
        check.index("no condition and wrong", () -> x.condition(3, 3));
        check.argument("3", () -> x.condition(0, 3));
        check.argument("-1", () -> x.condition(0, -1));
        check.due("answers", 4, () -> x.condition(1, 0));
        x.setCost(2, 8);
        check.due("cost", 8, () -> x.condition(2, 1));
        for (int c = 0; c < 3; c++) {
            int condition = c;
            check.due("without rows none matters", 0, () -> x.condition(condition, 2));
        }
        x.addRow(0x483, 0);
        check.due("first does not matter", 0, () -> x.condition(0, 2));
        check.due("last answer matters", 1, () -> x.condition(1, 2));
        check.due("last answer matters", 1, () -> x.condition(2, 2));
        x.addRow(0x7f3, 0);
        check.due("alike now", 0, () -> x.condition(1, 2));
        check.due("alike now", 0, () -> x.condition(2, 2));
        x.addRow(0x111, 5);
        check.due("what is hidden does not matter", 0, () -> x.condition(0, 2));
        AskedRules one = Tables.with(3);
        one.addRow(4, 0);
        check.due("a hole counts as an action", 1, () -> one.condition(0, 2));
    }

    private static void row() {
        AskedRules x = Tables.with(3, 4);
        x.addRow(0x35, 4);
        x.addRow(0x61, 5);
        x.addRow(0x22, 6);
        x.addRow(0x61, 7);
        check.index("no row", () -> x.row(4, 0));
        check.index("no row", () -> x.row(-1, 0));
        check.index("no row and wrong", () -> x.row(4, 6));
        check.argument("6", () -> x.row(0, 6));
        check.argument("-1", () -> x.row(0, -1));
        int[][] want = {{0, 4, 4, 4, 1, 0x35}, {1, 5, 2, 1, 1, 0x61}, {2, 6, 1, 1, 1, 0x22}, {3, 7, 2, 0, 0, 0x61}};
        for (int r = 0; r < 4; r++) {
            for (int w = 0; w < 6; w++) {
                int row = r;
                int what = w;
                check.due("row(" + row + ", " + what + ")", want[row][what], () -> x.row(row, what));
            }
        }
        x.moveUp(3);
        x.moveUp(3);
        check.due("its cases then", 1, () -> x.row(3, 3));
        check.due("place", 1, () -> x.row(3, 0));
        check.due("needed no more", 0, () -> x.row(1, 4));
        check.due("its cases at the first place", 4, () -> x.row(0, 3));
        x.setAnswers(0, 1, 1);
        check.due("fewer cases, asked first", 2, () -> x.row(0, 3));
        x.setAnswers(0, 0, 7);
        check.due("more cases, asked first", 3, () -> x.row(0, 3));
        x.dropRow(3);
        check.due("needed again, asked first", 1, () -> x.row(1, 4));
        x.setAnswers(0, 1, 15);
        check.due("needed no more, asked first", 0, () -> x.row(1, 4));
        AskedRules none = new AskedRules();
        none.addRow(0, 1);
        check.due("tells the case 0", 1, () -> none.row(0, 2));
        check.due("has no sets", 0, () -> none.row(0, 5));
    }

    private static void answers() {
        AskedRules x = Tables.with(2, 3, 4);
        x.addRow(0x961, 1);
        x.addRow(0x123, 1);
        check.due("first", 1, () -> x.answers(0, 0));
        check.due("second", 6, () -> x.answers(0, 1));
        check.due("third", 9, () -> x.answers(0, 2));
        check.due("of the other", 3, () -> x.answers(1, 0));
        check.index("no row", () -> x.answers(2, 0));
        check.index("no row", () -> x.answers(-1, 0));
        check.index("no condition", () -> x.answers(0, 3));
        check.index("no condition", () -> x.answers(0, -1));
    }

    private static void rowAt() {
        AskedRules x = Tables.with(2);
        check.argument("negative", () -> x.rowAt(-1));
        check.argument("negative", () -> x.rowAt(Integer.MIN_VALUE));
        check.due("none", -1, () -> x.rowAt(0));
        x.addRow(1, 1);
        x.addRow(1, 1);
        x.moveUp(1);
        check.due("first", 1, () -> x.rowAt(0));
        check.due("second", 0, () -> x.rowAt(1));
        check.due("none", -1, () -> x.rowAt(2));
        check.due("none", -1, () -> x.rowAt(Integer.MAX_VALUE));
        x.dropRow(1);
        check.due("none", -1, () -> x.rowAt(1));
    }

    private static void caseOf() {
        AskedRules x = Tables.with(2, 2);
        x.addRow(0x31, 4);
        x.addRow(0x11, 4);
        x.addRow(0x23, 5);
        x.addRow(0x21, 4);
        check.index("no case", () -> x.caseOf(4, 0));
        check.index("no case", () -> x.caseOf(-1, 0));
        check.index("no case and wrong", () -> x.caseOf(4, 5));
        check.argument("5", () -> x.caseOf(3, 5));
        check.argument("-1", () -> x.caseOf(0, -1));
        int[][] want = {{0, 4, 2, 0, 1}, {-1, 10, 0, 0, -1}, {0, 4, 3, 1, 2}, {2, 5, 1, 0, -1}};
        for (int n = 0; n < 4; n++) {
            for (int w = 0; w < 5; w++) {
                int number = n;
                int what = w;
                check.due("caseOf(" + n + ", " + w + ")", want[n][w], () -> x.caseOf(number, what));
            }
        }
        x.moveUp(3);
        x.moveUp(3);
        check.due("second then", 3, () -> x.caseOf(2, 4));
        // the first two have like actions, a third one has not
        AskedRules third = new AskedRules();
        third.addRow(0, 1);
        third.addRow(0, 1);
        check.due("overlap alone", 0, () -> third.caseOf(0, 3));
        third.addRow(0, 2);
        check.due("conflict by the third", 1, () -> third.caseOf(0, 3));
        check.index("without conditions", () -> third.caseOf(1, 0));
        AskedRules big = Tables.with(4, 4, 4, 4, 4);
        check.due("last of all", 10, () -> big.caseOf(1023, 1));
        check.index("behind it", () -> big.caseOf(1024, 1));
    }

    private static void answerOf() {
        AskedRules x = Tables.with(2, 3, 4);
        check.due("of 17", 1, () -> x.answerOf(17, 0));
        check.due("of 17", 2, () -> x.answerOf(17, 1));
        check.due("of 17", 2, () -> x.answerOf(17, 2));
        check.due("of 23", 3, () -> x.answerOf(23, 2));
        check.due("of 0", 0, () -> x.answerOf(0, 1));
        check.due("of 6", 1, () -> x.answerOf(6, 2));
        check.due("of 6", 0, () -> x.answerOf(6, 1));
        check.index("no case", () -> x.answerOf(24, 0));
        check.index("no case", () -> x.answerOf(-1, 0));
        check.index("no condition", () -> x.answerOf(0, 3));
        check.index("no condition", () -> x.answerOf(0, -1));
        AskedRules none = new AskedRules();
        check.index("without conditions", () -> none.answerOf(0, 0));
    }

    private static void hole() {
        AskedRules x = Tables.with(4);
        x.addRow(2, 1);
        check.argument("negative", () -> x.hole(-1));
        check.due("first", 0, () -> x.hole(0));
        check.due("second", 2, () -> x.hole(1));
        check.due("third", 3, () -> x.hole(2));
        check.due("none", -1, () -> x.hole(3));
        check.due("none", -1, () -> x.hole(Integer.MAX_VALUE));
        x.addRow(15, 1);
        check.due("none at all", -1, () -> x.hole(0));
    }

    private static void whole() {
        AskedRules x = Tables.with(2, 3);
        check.argument("-1", () -> x.whole(-1));
        check.argument("12", () -> x.whole(12));
        x.addRow(0x11, 1);
        x.addRow(0x31, 1);
        x.addRow(0x32, 0);
        x.addRow(0x22, 3);
        x.addRow(0x12, 9);
        x.dropRow(4);
        x.type(' ');
        x.type(' ');
        int[] want = {2, 6, 4, 2, 2, 1, 3, 2, 0, 3, 5, 2};
        for (int what = 0; what < want.length; what++) {
            int w = what;
            check.due("whole(" + w + ")", want[w], () -> x.whole(w));
        }
        x.addRow(0x73, 9);
        check.due("no hole, other actions", 3, () -> x.whole(9));
        check.due("no holes", 0, () -> x.whole(3));
        check.due("overlaps then", 4, () -> x.whole(4));
        check.due("conflicts then", 4, () -> x.whole(5));
        x.dropRow(5);
        check.due("overlaps as before", 2, () -> x.whole(4));
        check.due("conflicts as before", 1, () -> x.whole(5));
        check.due("holes as before", 2, () -> x.whole(3));
    }

    private static void worstCost() {
        AskedRules x = new AskedRules();
        x.addCondition(2, 3);
        x.addCondition(2, 2);
        x.addCondition(2, 9);
        check.due("nothing to ask", 0, () -> x.whole(7));
        check.due("no question", -1, () -> x.whole(8));
        x.addRow(0x331, 1);
        check.due("one question", 3, () -> x.whole(7));
        check.due("the first", 0, () -> x.whole(8));
        x.addRow(0x313, 2);
        check.due("two questions", 5, () -> x.whole(7));
        check.due("either can begin", 0, () -> x.whole(8));
        x.setAnswers(0, 2, 1);
        check.due("all three", 14, () -> x.whole(7));
        // asking the dear one first would ask it for all cases
        AskedRules y = new AskedRules();
        y.addCondition(2, 5);
        y.addCondition(2, 1);
        y.addCondition(2, 5);
        y.addRow(0x313, 1);
        y.addRow(0x323, 2);
        y.dropRow(1);
        y.addRow(0x121, 3);
        y.addRow(0x222, 3);
        check.due("worst cost", 11, () -> y.whole(7));
        check.due("any can begin", 0, () -> y.whole(8));
        y.dropRow(3);
        y.setAnswers(2, 0, 3);
        check.due("second can begin", 1, () -> y.whole(8));
        check.due("worst cost", 6, () -> y.whole(7));
    }

    // ---- promises 20 to 24

    private static void reason() {
        AskedRules x = Tables.with(2, 2, 2);
        x.addRow(0x111, 1);
        x.addRow(0x112, 1);
        x.addRow(0x112, 1);
        x.addRow(0x221, 2);
        x.addRow(0x211, 2);
        x.addRow(0x111, 2);
        x.addRow(0x222, 2);
        check.due("one set unlike", 0, () -> x.reason(0));
        check.due("all alike", 0, () -> x.reason(1));
        check.due("unlike actions ahead of unlike sets", 2, () -> x.reason(2));
        check.due("second set unlike", 0, () -> x.reason(3));
        check.due("third set unlike", 0, () -> x.reason(4));
        check.due("all sets unlike", 3, () -> x.reason(5));
        check.due("no next one", 1, () -> x.reason(6));
        x.setAnswers(6, 0, 1);
        check.due("two sets unlike", 3, () -> x.reason(5));
        check.index("no row", () -> x.reason(7));
        check.index("no row", () -> x.reason(-1));
    }

    private static void ask() {
        AskedRules x = new AskedRules();
        check.due("without conditions", -1, () -> x.ask(0));
        check.argument("without conditions", () -> x.ask(1));
        x.addCondition(2, 5);
        x.addCondition(3, 1);
        x.addCondition(2, 4);
        x.addRow(0x341, 1);
        x.addRow(0x142, 2);
        x.addRow(0x323, 3);
        x.addRow(0x233, 4);
        check.argument("negative", () -> x.ask(-1));
        check.argument("negative", () -> x.ask(Integer.MIN_VALUE));
        check.argument("no such answer of 0", () -> x.ask(0x003));
        check.argument("no such answer of 1", () -> x.ask(0x040));
        check.argument("no such answer of 2", () -> x.ask(0x300));
        check.argument("beyond", () -> x.ask(0x1000));
        check.argument("far beyond", () -> x.ask(0x40000000));
        // answer 0 to condition 1: 2 decides; answer 1: all alike; answer 2: 0, and 2 after its answer 1
        check.due("nothing known", 0, () -> x.ask(0));
        check.due("answer 0 to 1", 2, () -> x.ask(0x010));
        check.due("answer 1 to 1", -1, () -> x.ask(0x020));
        check.due("answer 2 to 1", 0, () -> x.ask(0x030));
        check.due("and 0 to 0", -1, () -> x.ask(0x031));
        check.due("and 1 to 0", 2, () -> x.ask(0x032));
        check.due("0 to 0", 1, () -> x.ask(0x001));
        check.due("0 to 2, 2 to 1", 0, () -> x.ask(0x130));
        check.due("all known", -1, () -> x.ask(0x232));
        long before = x.digest();
        x.ask(0x010);
        check.due("asking changes nothing", before, () -> x.digest());
        AskedRules five = Tables.with(4, 4, 4, 4, 4);
        five.addRow(0x8ffff, 1);
        check.due("the fifth decides", 4, () -> five.ask(0x04444));
        check.due("the fifth is known", -1, () -> five.ask(0x40000));
        check.argument("5", () -> five.ask(0x50000));
        check.argument("beyond five", () -> five.ask(0x100000));
    }

    private static void costFrom() {
        AskedRules x = new AskedRules();
        check.due("without conditions", 0, () -> x.costFrom(0));
        check.argument("without conditions", () -> x.costFrom(16));
        x.addCondition(2, 5);
        x.addCondition(3, 1);
        x.addCondition(2, 4);
        x.addRow(0x341, 1);
        x.addRow(0x142, 2);
        x.addRow(0x323, 3);
        x.addRow(0x233, 4);
        check.argument("negative", () -> x.costFrom(-1));
        check.argument("no such answer of 0", () -> x.costFrom(0x003));
        check.argument("no such answer of 1", () -> x.costFrom(0x040));
        check.argument("no such answer of 2", () -> x.costFrom(0x300));
        check.argument("beyond", () -> x.costFrom(0x1000));
        check.due("nothing known", 10, () -> x.costFrom(0));
        check.due("as whole", 10, () -> x.whole(7));
        check.due("answer 0 to 1", 4, () -> x.costFrom(0x010));
        check.due("answer 1 to 1", 0, () -> x.costFrom(0x020));
        check.due("answer 2 to 1", 9, () -> x.costFrom(0x030));
        check.due("and 1 to 0", 4, () -> x.costFrom(0x032));
        check.due("0 to 0", 5, () -> x.costFrom(0x001));
        check.due("all known", 0, () -> x.costFrom(0x232));
    }

    private static void changedWithout() {
        AskedRules x = Tables.with(4);
        x.addRow(7, 1);
        x.addRow(1, 1);
        x.addRow(2, 2);
        x.addRow(1, 3);
        check.index("no row", () -> x.changedWithout(4));
        check.index("no row", () -> x.changedWithout(-1));
        // case 0 keeps its action by row 1, case 1 gets that of row 2, case 2 becomes a hole
        check.due("first", 2, () -> x.changedWithout(0));
        check.due("hidden", 0, () -> x.changedWithout(1));
        check.due("hidden", 0, () -> x.changedWithout(2));
        long before = x.digest();
        x.changedWithout(0);
        check.due("changes nothing", before, () -> x.digest());
        x.dropRow(0);
        check.due("row 1 then", 1, () -> x.changedWithout(1));
        check.due("row 2 then", 1, () -> x.changedWithout(2));
    }

    private static void bestAction() {
        AskedRules none = new AskedRules();
        check.due("any will do", 0, () -> none.bestAction(0));
        none.addRow(0, 3);
        check.due("no hole", -1, () -> none.bestAction(0));
        check.index("no case", () -> none.bestAction(1));
        AskedRules x = Tables.with(2, 2);
        x.addRow(0x32, 4);
        x.addRow(0x11, 7);
        check.index("no case", () -> x.bestAction(4));
        check.index("no case", () -> x.bestAction(-1));
        check.due("no hole", -1, () -> x.bestAction(0));
        check.due("7 spares the second question", 7, () -> x.bestAction(2));
        long before = x.digest();
        x.bestAction(2);
        check.due("changes nothing", before, () -> x.digest());
        check.due("nor the plans", 1, () -> x.ask(0x01));
        check.due("nor their cost", 1, () -> x.costFrom(0x01));
        check.due("nor the worst", 2, () -> x.whole(7));
        x.setAction(1, 4);
        check.due("4 spares all", 4, () -> x.bestAction(2));
        // with 20 rows none could be added, but the action is told
        AskedRules full = Tables.with(2);
        for (int i = 0; i < 20; i++) {
            full.addRow(2, 9);
        }
        check.due("however many rows", 9, () -> full.bestAction(0));
    }

    // ---- promises 25 to 29

    private static void type() {
        AskedRules x = new AskedRules();
        check.argument("-1", () -> x.type(-1));
        check.argument("128", () -> x.type(128));
        check.due("0", 1, () -> x.type(0));
        check.due("127", 2, () -> x.type(127));
        check.due("length", 2, () -> x.whole(11));
        for (int i = 2; i < 150; i++) {
            x.type('a');
        }
        check.state("full", () -> x.type('a'));
        check.argument("full and wrong", () -> x.type(128));
        check.due("length", 150, () -> x.whole(11));
        check.state("it is not undoable", () -> x.undo());
    }

    private static void clearCommands() {
        AskedRules x = new AskedRules();
        check.due("empty", 0, () -> x.clearCommands());
        Tables.write(x, "merge;x");
        check.due("its length", 7, () -> x.clearCommands());
        check.due("empty then", 0, () -> x.whole(11));
        check.due("no fault then", 0, () -> x.runCommands());
        AskedRules y = new AskedRules();
        Tables.write(y, "merge;");
        y.clearCommands();
        check.state("it is not undoable", () -> y.undo());
    }

    private static void runCommands() {
        runs("", 0);
        runs("   ", 0, 2);
        runs("merge;", 1);
        runs(" merge;  merge;merge; ", 3);
        runs("if >5;", 1);
        runs("if >0;up 00;", 1);
        runs("if -,-,-,-,->9;if 1,23,013,0,2>0;", 2, 2, 4, 4, 2, 3);
        runs("if 0123>1;if 0>2;drop 00;drop 1;", 4, 4);
        AskedRules x = Tables.with(3, 2);
        x.addRow(0x11, 9);
        Tables.write(x, "if 02,->4; if -,1>5;up 2;up 02;drop 1; ");
        check.due("carried out", 5, () -> x.runCommands());
        order(x, 2, 0);
        check.due("sets", 0x27, () -> x.row(2, 5));
        check.due("action", 5, () -> x.row(2, 1));
        AskedRules sets = Tables.with(4, 3);
        Tables.write(sets, "if 1,2>4;if 013,12>3;if 0123,->0;");
        check.due("carried out", 3, () -> sets.runCommands());
        check.due("sets", 0x42, () -> sets.row(0, 5));
        check.due("sets", 0x6b, () -> sets.row(1, 5));
        check.due("sets", 0x7f, () -> sets.row(2, 5));
        check.due("action", 4, () -> sets.row(0, 1));
        check.due("action", 0, () -> sets.row(2, 1));
        AskedRules many = new AskedRules();
        for (int i = 0; i < 13; i++) {
            many.addRow(0, 1);
        }
        Tables.write(many, "drop 12;up 11;up 11;drop 09;up 13;");
        check.due("carried out", 4, () -> many.runCommands());
        order(many, 0, 1, 2, 3, 4, 5, 6, 7, 8, 11, 10);
        check.due("added", 3, () -> x.whole(10));
        check.due("the text stays", 39, () -> x.whole(11));
        check.due("one state is saved", 3, () -> x.undo());
        order(x, 0);
        check.due("numbers are used again", 1, () -> x.whole(10));
        check.due("the text stays", 39, () -> x.whole(11));
        check.due("again", 5, () -> x.runCommands());
        AskedRules m = Tables.with(2, 2);
        Tables.write(m, "if 0,0>1;if 1,0>1;if -,1>1;merge;");
        check.due("merge", 4, () -> m.runCommands());
        order(m, 0);
        check.due("sets", 0x33, () -> m.row(0, 5));
        StringBuilder most = new StringBuilder();
        for (int i = 0; i < 25; i++) {
            most.append("merge;");
        }
        runs(most.toString(), 25);
    }

    private static void faults() {
        faultAt("x", 0);
        faultAt(";", 0);
        faultAt("1", 0);
        faultAt("merge;;", 6);
        faultAt("  If >1;", 2);
        faultAt("ifx >1;", 0);
        faultAt("ifa >1;", 0);
        faultAt("ifz >1;", 0);
        faultAt("if` >1;", 2);
        faultAt("if{ >1;", 2);
        faultAt("a", 0);
        faultAt("f >1;", 0);
        faultAt("xf >1;", 0);
        faultAt("xp 1;", 0);
        faultAt("xrop 1;", 0);
        faultAt("xerge;", 0);
        faultAt("dropp 1;", 0);
        faultAt("if 0;", 4, 2);
        faultAt("if ;", 3);
        faultAt("if 0>;", 5, 2);
        faultAt("if >;", 4);
        faultAt("me", 0);
        faultAt("mer ge;", 0);
        faultAt(" merges;", 1);
        faultAt("merge;dro", 6);
        faultAt("merge", 5);
        faultAt("merge ;", 5);
        faultAt("merge1", 5);
        faultAt("merge;if", 8);
        faultAt("if", 2);
        faultAt("if>1;", 2);
        faultAt("if ", 3);
        faultAt("if  >1;", 3);
        faultAt("if >", 4);
        faultAt("if > 1;", 4);
        faultAt("if >1", 5);
        faultAt("if >12;", 5);
        faultAt("if >1 ;", 5);
        faultAt("if ->1;", 3);
        faultAt("if 0>1;", 3);
        faultAt("if >1;", 3, 2);
        faultAt("if 2>1;", 3, 2);
        faultAt("if 12>1;", 4, 2);
        faultAt("if 12>1;if 3>1;", 11, 3);
        faultAt("if 3>1;if 4>1;", 10, 4);
        faultAt("if 00>1;", 4, 2);
        faultAt("if 10>1;", 4, 2);
        faultAt("if -0>1;", 4, 2);
        faultAt("if 0->1;", 4, 2);
        faultAt("if 0,>1;", 4, 2);
        faultAt("if 0,1>1;", 4, 2);
        faultAt("if 0>1;", 4, 2, 2);
        faultAt("if 0 ,1>1;", 4, 2, 2);
        faultAt("if 0, 1>1;", 5, 2, 2);
        faultAt("if 0,,1>1;", 5, 2, 2);
        faultAt("if ,1>1;", 3, 2, 2);
        faultAt("if 0,1", 6, 2, 2);
        faultAt("if 0,1,0>1;", 6, 2, 2);
        faultAt("if 0,1 >1;", 6, 2, 2);
        faultAt("drop", 4);
        faultAt("drop1;", 4);
        faultAt("drop ;", 5);
        faultAt("drop  1;", 5);
        faultAt("drop 1", 6);
        faultAt("drop 1 ;", 6);
        faultAt("drop 123;", 7);
        faultAt("drop 001;", 7);
        faultAt("drop -1;", 5);
        faultAt("up", 2);
        faultAt("up;", 2);
        faultAt("up x;", 3);
        faultAt("up 1x", 4);
        faultAt("up 12", 5);
        faultAt("up 123;", 5);
        faultAt("merge;\u0000", 6);
        faultAt("\tmerge;", 0);
        faultAt("merge;merge,", 11);
        StringBuilder full = new StringBuilder("   ");
        while (full.length() < 145) {
            full.append("merge;");
        }
        full.append("merge");
        full.setLength(150);
        faultAt(full.toString(), 147);
    }

    private static void commandsThatStop() {
        AskedRules x = Tables.with(2);
        Tables.write(x, "if 0>1;drop 1;if 1>2;");
        check.due("no row to drop", 1, () -> x.runCommands());
        order(x, 0);
        Tables.write(x, "up 0;if 1>2;");
        check.due("the first goes not up", 0, () -> x.runCommands());
        Tables.write(x, "up 9;");
        check.due("no row to go up", 0, () -> x.runCommands());
        order(x, 0);
        check.due("a run that does nothing saves", 3, () -> x.undo());
        check.due("the others as well", 2, () -> x.undo());
        order(x, 0);
        AskedRules full = Tables.with(2);
        for (int i = 0; i < 19; i++) {
            full.addRow(1, i % 2);
        }
        Tables.write(full, "if 0>1;if 0>1;merge;");
        check.due("no room for a row", 1, () -> full.runCommands());
        check.due("rows", 20, () -> full.whole(2));
        check.due("added", 20, () -> full.whole(10));
        AskedRules fault = Tables.with(2);
        Tables.write(fault, "if 0>1;drop 0;x");
        check.due("fault", -24, () -> fault.runCommands());
        check.due("nothing is done", 0, () -> fault.whole(10));
        check.due("nothing is saved", 0, () -> fault.undo());
    }

    private static void undo() {
        AskedRules x = new AskedRules();
        check.state("empty", () -> x.undo());
        x.addCondition(2, 1);
        x.addCondition(3, 2);
        x.addRow(0x11, 1);
        check.due("left", 2, () -> x.undo());
        check.due("rows", 0, () -> x.whole(2));
        check.due("left", 1, () -> x.undo());
        check.due("left", 0, () -> x.undo());
        check.due("cases", 1, () -> x.whole(1));
        check.state("empty", () -> x.undo());
        for (int i = 0; i < 6; i++) {
            x.addRow(0, i);
        }
        for (int left = 3; left >= 0; left--) {
            int want = left;
            check.due("left", want, () -> x.undo());
            check.due("rows", want + 2, () -> x.whole(2));
            check.due("added", want + 2, () -> x.whole(10));
        }
        check.state("no more than four", () -> x.undo());
        x.type('a');
        x.addRow(0, 1);
        x.type('b');
        x.undo();
        check.due("not the command text", 2, () -> x.whole(11));
        check.due("rows", 2, () -> x.whole(2));
        order(x, 0, 1);
    }

    private static void undoOfEach() {
        AskedRules x = Tables.with(2, 2);
        check.due("addCondition saves", 2, Tables.undoAll(x));
        x.addCondition(2, 1);
        x.addRow(1, 1);
        x.setCost(0, 1);
        check.due("setCost saves", 3, Tables.undoAll(x));
        x.addRow(0, 1);
        x.setAction(0, 1);
        check.due("setAction saves, also if it changes nothing", 2, Tables.undoAll(x));
        x.addCondition(2, 1);
        x.addRow(1, 1);
        x.setAnswers(0, 0, 1);
        check.due("setAnswers saves", 3, Tables.undoAll(x));
        x.addRow(0, 1);
        x.dropRow(0);
        check.due("dropRow saves", 2, Tables.undoAll(x));
        x.addRow(0, 1);
        x.addRow(0, 1);
        x.moveUp(1);
        check.due("moveUp saves", 3, Tables.undoAll(x));
        x.addRow(0, 1);
        x.addRow(0, 1);
        x.merge(0);
        check.due("merge saves", 3, Tables.undoAll(x));
        x.mergeAll();
        check.due("mergeAll saves", 1, Tables.undoAll(x));
        x.prune();
        check.due("prune saves", 1, Tables.undoAll(x));
        x.runCommands();
        check.due("runCommands saves", 1, Tables.undoAll(x));
        x.condition(x.addCondition(2, 1), 2);
        x.ask(0);
        x.costFrom(0);
        x.bestAction(0);
        x.hole(0);
        x.digest();
        check.due("what asks does not save", 1, Tables.undoAll(x));
    }

    private static void digest() {
        long h = 43870;
        // no states; whole(0) to whole(11); caseOf(0, 1) to caseOf(0, 3)
        for (int v : new int[] {0, 0, 1, 0, 1, 0, 0, 0, 0, -1, 1, 0, 0, 10, 0, 0}) {
            h = 31 * h + v;
        }
        long empty = h;
        AskedRules x = new AskedRules();
        check.due("digest of a new object", empty, () -> x.digest());
        x.addCondition(2, 3);
        x.addRow(3, 8);
        x.addRow(1, 7);
        x.moveUp(1);
        x.type('u');
        h = 43870;
        h = 31 * h + 4;
        for (int v : new int[] {1, 2, 2, 0, 1, 1, 2, 3, 0, 2, 2, 1}) {
            h = 31 * h + v;
        }
        for (int v : new int[] {2, 3, 1}) {
            h = 31 * h + v;
        }
        for (int v : new int[] {1, 0, 7, 1, 1, 1, 1, 0, 1, 8, 2, 1, 1, 3}) {
            h = 31 * h + v;
        }
        for (int v : new int[] {7, 2, 1, 8, 1, 0}) {
            h = 31 * h + v;
        }
        long full = h;
        check.due("digest", full, () -> x.digest());
        check.due("digest again", full, () -> x.digest());
        x.undo();
        check.due("states count", 1, x.digest() != full ? 1 : 0);
    }

    private static void throwingChangesNothing() {
        AskedRules x = Tables.with(2, 3);
        x.addRow(0x13, 1);
        x.addRow(0x21, 2);
        long before = x.digest();
        Check.Call[] calls = {
            () -> x.addCondition(5, 1), () -> x.setCost(2, 1), () -> x.setCost(0, 0), () -> x.addRow(0, 1),
            () -> x.setAnswers(0, 0, 4), () -> x.setAnswers(2, 0, 1), () -> x.setAction(0, 10), () -> x.setAction(5, 1),
            () -> x.dropRow(2), () -> x.moveUp(0), () -> x.moveUp(2), () -> x.merge(0), () -> x.merge(1),
            () -> x.merge(2), () -> x.type(128), () -> x.ask(3), () -> x.costFrom(3), () -> x.bestAction(6),
            () -> x.changedWithout(2), () -> x.reason(2), () -> x.hole(-1), () -> x.whole(12)
        };
        for (int i = 0; i < calls.length; i++) {
            check.same("call " + i, "throws.", Check.outcome(calls[i]).substring(0, 7));
            check.due("digest after call " + i, before, () -> x.digest());
        }
    }
}
