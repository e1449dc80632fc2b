/** Promises 1 to 11: a test for each sentence that names a boundary case. */
public final class ChangeEdgesTest {
    private static final Check check = new Check("ChangeEdgesTest");
    private static final int LEAST = Tables.LEAST;
    private static final int MOST = Tables.MOST;
    private static final int NONE = Tables.NONE;

    public static void main(String[] args) {
        newObject();
        addCondition();
        setCost();
        addRow();
        numbersOfRows();
        setAnswers();
        setAction();
        dropRow();
        moveUp();
        merge();
        mergeAll();
        prune();
        check.close();
    }

    private static void order(String call, String want, AskedRules x) {
        check.same("order " + call, want, Tables.order(x));
    }

    // ---- promise 1

    private static void newObject() {
        newObjectHasNoConditions();
        newObjectHasNoRows();
        newObjectHasAnEmptyText();
        newObjectHasAnEmptyStack();
        newObjectsAreApart();
    }

    private static void newObjectHasNoConditions() {
        check.about("Creates a table without conditions");
        AskedRules x = new AskedRules();
        check.due("conditions", 0, () -> x.whole(0));
        check.index("condition(0, 0)", () -> x.condition(0, 0));
        check.due("cases", 1, () -> x.whole(1));
    }

    private static void newObjectHasNoRows() {
        check.about("Creates a table without rows");
        AskedRules x = new AskedRules();
        check.due("rows", 0, () -> x.whole(2));
        check.due("added", 0, () -> x.whole(10));
        check.due("rowAt(0)", NONE, () -> x.rowAt(0));
        check.index("row(0, 0)", () -> x.row(0, 0));
        check.due("the case is a hole", 0, () -> x.hole(0));
    }

    private static void newObjectHasAnEmptyText() {
        check.about("with an empty command text");
        check.due("length", 0, () -> new AskedRules().whole(11));
        check.due("length that it had", 0, () -> new AskedRules().clearCommands());
        check.due("no fault", 0, () -> new AskedRules().runCommands());
        check.due("first byte", 1, () -> new AskedRules().type('m'));
    }

    private static void newObjectHasAnEmptyStack() {
        check.about("and an empty undo stack");
        check.state("undo", () -> new AskedRules().undo());
        check.due("one state then", 0, () -> {
            AskedRules x = new AskedRules();
            x.prune();
            return x.undo();
        });
    }

    private static void newObjectsAreApart() {
        check.about("Creates a table, of its own");
        AskedRules x = new AskedRules();
        long before = x.digest();
        AskedRules y = Tables.with(3, 2);
        y.addRow(0x11, 4);
        y.type(';');
        check.due("digest", before, () -> x.digest());
        check.state("undo", () -> x.undo());
        check.due("digest of a later one", before, () -> new AskedRules().digest());
    }

    // ---- promise 2

    private static void addCondition() {
        answersOfAConditionInRange();
        costOfANewConditionInRange();
        noSixthCondition();
        rangeAheadOfTheSixth();
        rowsGetAllAnswers();
        numbersOfConditions();
    }

    private static void answersOfAConditionInRange() {
        check.about("addCondition: answers: 2 to 4");
        for (int answers : new int[] {LEAST, -2, -1, 0, 1, 5, 6, 16, 1 << 16 | 2, MOST}) {
            check.argument("answers " + answers, () -> new AskedRules().addCondition(answers, 1));
        }
        for (int answers = 2; answers <= 4; answers++) {
            int all = answers;
            AskedRules x = new AskedRules();
            check.due("answers " + all, 0, () -> x.addCondition(all, 1));
            check.due("its answers", all, () -> x.condition(0, 0));
            check.due("its cases", all, () -> x.whole(1));
        }
    }

    private static void costOfANewConditionInRange() {
        check.about("addCondition: cost: 1 to 9");
        for (int cost : new int[] {LEAST, -1, 0, 10, 11, 1 << 16 | 1, MOST}) {
            check.argument("cost " + cost, () -> new AskedRules().addCondition(2, cost));
        }
        for (int cost = 1; cost <= 9; cost++) {
            int its = cost;
            AskedRules x = new AskedRules();
            check.due("cost " + its, 0, () -> x.addCondition(2, its));
            check.due("its cost", its, () -> x.condition(0, 1));
        }
    }

    private static void noSixthCondition() {
        check.about("addCondition: IllegalStateException if there are 5 conditions");
        AskedRules x = Tables.with(2, 2, 2, 2);
        check.due("the fifth", 4, () -> x.addCondition(2, 1));
        check.state("a sixth", () -> x.addCondition(2, 1));
        check.state("a sixth, other values", () -> x.addCondition(4, 9));
        check.due("conditions", 5, () -> x.whole(0));
        check.due("cases", 32, () -> x.whole(1));
        check.index("the sixth", () -> x.condition(5, 0));
        x.undo();
        check.due("the fifth, after undo", 4, () -> x.addCondition(4, 9));
        check.due("cases", 64, () -> x.whole(1));
    }

    private static void rangeAheadOfTheSixth() {
        check.about("addCondition: the exception that is listed first is thrown");
        AskedRules x = Tables.with(2, 2, 2, 2, 2);
        check.argument("answers and a sixth", () -> x.addCondition(1, 1));
        check.argument("answers and a sixth", () -> x.addCondition(5, 1));
        check.argument("cost and a sixth", () -> x.addCondition(2, 0));
        check.argument("cost and a sixth", () -> x.addCondition(2, 10));
    }

    private static void rowsGetAllAnswers() {
        check.about("addCondition: all rows get the set of all its answers");
        for (int answers = 2; answers <= 4; answers++) {
            int all = (1 << answers) - 1;
            AskedRules x = Tables.withRows(20);
            x.addCondition(answers, 1);
            for (int row = 0; row < 20; row++) {
                int which = row;
                check.due("set of row " + row, all, () -> x.answers(which, 1));
                check.due("its first set stays", 1 + which % 2, () -> x.answers(which, 0));
            }
        }
        AskedRules late = new AskedRules();
        late.addRow(0, 7);
        int sets = 0;
        for (int condition = 0; condition < 5; condition++) {
            late.addCondition(4, 1);
            sets = sets << 4 | 15;
            int want = sets;
            check.due("sets of a row without any", want, () -> late.row(0, 5));
        }
        check.due("it tells all cases", 1024, () -> late.row(0, 2));
    }

    private static void numbersOfConditions() {
        check.about("addCondition: Returns the number of the condition (numbered from 0)");
        AskedRules x = new AskedRules();
        for (int i = 0; i < 5; i++) {
            int number = i;
            check.due("number", number, () -> x.addCondition(2 + number % 3, 1));
        }
        x.undo();
        x.undo();
        check.due("number after undo", 3, () -> x.addCondition(2, 1));
    }

    // ---- promise 3

    private static void setCost() {
        costOfNoCondition();
        costInRange();
        conditionAheadOfCost();
        previousCost();
    }

    private static void costOfNoCondition() {
        check.about("setCost: IndexOutOfBoundsException if there is no such condition");
        check.index("without conditions", () -> new AskedRules().setCost(0, 1));
        AskedRules x = Tables.with(2, 2, 2, 2, 2);
        for (int condition : new int[] {LEAST, -1, 5, 6, MOST}) {
            check.index("condition " + condition, () -> x.setCost(condition, 1));
        }
        check.due("the last one", 1, () -> x.setCost(4, 2));
        x.undo();
        x.undo();
        check.index("that is no more", () -> x.setCost(4, 1));
    }

    private static void costInRange() {
        check.about("setCost: IllegalArgumentException if cost is out of range (1 to 9)");
        AskedRules x = Tables.with(2);
        for (int cost : new int[] {LEAST, -1, 0, 10, 11, MOST}) {
            check.argument("cost " + cost, () -> x.setCost(0, cost));
        }
        for (int cost = 1; cost <= 9; cost++) {
            int its = cost;
            x.setCost(0, its);
            check.due("cost", its, () -> x.condition(0, 1));
        }
    }

    private static void conditionAheadOfCost() {
        check.about("setCost: the exception that is listed first is thrown");
        AskedRules x = Tables.with(2);
        check.index("no condition, cost 0", () -> x.setCost(1, 0));
        check.index("no condition, cost 10", () -> x.setCost(-1, 10));
    }

    private static void previousCost() {
        check.about("setCost: Returns the previous cost");
        AskedRules x = Tables.with(2, 2);
        check.due("of addCondition()", 1, () -> x.setCost(1, 9));
        check.due("of setCost()", 9, () -> x.setCost(1, 9));
        check.due("the same again", 9, () -> x.setCost(1, 4));
        check.due("of the other one", 1, () -> x.setCost(0, 3));
        x.undo();
        x.undo();
        check.due("after undo", 9, () -> x.setCost(1, 2));
    }

    // ---- promise 4

    private static void addRow() {
        actionOfANewRowInRange();
        setsAreNotNegative();
        noSetIsEmpty();
        noBitThatIsNoAnswer();
        noBitBeyondTheConditions();
        noTwentyFirstRow();
        roomForARowAgain();
        rangeAheadOfTheTwentyFirst();
        firstSetLiesLowest();
        rowWithoutConditions();
        newRowComesToTheEnd();
    }

    private static void actionOfANewRowInRange() {
        check.about("addRow: IllegalArgumentException if action is out of range (0 to 9)");
        AskedRules x = Tables.with(2);
        for (int action : new int[] {LEAST, -1, 10, 11, MOST}) {
            check.argument("action " + action, () -> x.addRow(1, action));
        }
        for (int action = 0; action <= 9; action++) {
            int its = action;
            check.due("action " + its, its, () -> x.addRow(1, its));
            check.due("its action", its, () -> x.row(its, 1));
        }
    }

    private static void setsAreNotNegative() {
        check.about("addRow: IllegalArgumentException if sets is negative");
        check.argument("without conditions", () -> new AskedRules().addRow(-1, 0));
        check.argument("without conditions", () -> new AskedRules().addRow(LEAST, 0));
        AskedRules x = Tables.with(2);
        AskedRules five = Tables.with(4, 4, 4, 4, 4);
        for (int sets : new int[] {-1, LEAST, LEAST | 1, -15, ~0x10}) {
            check.argument("sets " + sets, () -> x.addRow(sets, 0));
            check.argument("sets " + sets + " of five", () -> five.addRow(sets, 0));
        }
        check.argument("all right but for the sign", () -> five.addRow(LEAST | 0xfffff, 0));
    }

    private static void noSetIsEmpty() {
        check.about("addRow: IllegalArgumentException if a set is empty");
        AskedRules x = Tables.with(4, 4, 4, 4, 4);
        check.argument("all sets", () -> x.addRow(0, 0));
        for (int condition = 0; condition < 5; condition++) {
            int sets = 0xfffff & ~(15 << 4 * condition);
            check.argument("set " + condition, () -> x.addRow(sets, 0));
        }
        check.due("none", 0, () -> x.addRow(0x11111, 0));
    }

    private static void noBitThatIsNoAnswer() {
        check.about("addRow: IllegalArgumentException if sets has a bit that is no answer of a condition");
        for (int condition = 0; condition < 5; condition++) {
            AskedRules two = Tables.with(2, 2, 2, 2, 2);
            AskedRules three = Tables.with(3, 3, 3, 3, 3);
            int shift = 4 * condition;
            check.argument("answer 2 of two", () -> two.addRow(0x11111 | 4 << shift, 0));
            check.argument("answer 3 of two", () -> two.addRow(0x11111 | 8 << shift, 0));
            check.argument("answer 2 alone", () -> two.addRow(0x11111 ^ 5 << shift, 0));
            check.argument("answer 3 of three", () -> three.addRow(0x11111 | 8 << shift, 0));
            check.due("all of two", 0, () -> two.addRow(0x33333, 0));
            check.due("all of three", 0, () -> three.addRow(0x77777, 0));
        }
        check.due("all of four", 0, () -> Tables.with(4, 4, 4, 4, 4).addRow(0xfffff, 0));
    }

    private static void noBitBeyondTheConditions() {
        check.about("addRow: IllegalArgumentException if sets has a bit beyond the conditions");
        for (int conditions = 0; conditions <= 5; conditions++) {
            AskedRules x = new AskedRules();
            for (int i = 0; i < conditions; i++) {
                x.addCondition(4, 1);
            }
            int right = 0x11111 & (1 << 4 * conditions) - 1;
            for (int bit = 4 * conditions; bit < 31; bit++) {
                int sets = right | 1 << bit;
                check.argument("sets " + sets + " of " + conditions, () -> x.addRow(sets, 0));
            }
            check.due("sets " + right + " of " + conditions, 0, () -> x.addRow(right, 0));
        }
    }

    private static void noTwentyFirstRow() {
        check.about("addRow: IllegalStateException if there are 20 rows");
        AskedRules x = Tables.withRows(19);
        check.due("the twentieth", 19, () -> x.addRow(1, 1));
        check.state("one more", () -> x.addRow(1, 1));
        check.state("one more, the same again", () -> x.addRow(1, 1));
        check.due("rows", 20, () -> x.whole(2));
        check.due("added", 20, () -> x.whole(10));
        check.due("the last one", 19, () -> x.rowAt(19));
        check.due("behind it", NONE, () -> x.rowAt(20));
        AskedRules none = new AskedRules();
        for (int i = 0; i < 20; i++) {
            none.addRow(0, 1);
        }
        check.state("without conditions", () -> none.addRow(0, 1));
    }

    private static void roomForARowAgain() {
        check.about("addRow: only if there are 20 rows, not if 20 were added");
        AskedRules x = Tables.withRows(20);
        x.dropRow(7);
        check.due("after dropRow()", 20, () -> x.addRow(1, 1));
        check.state("full again", () -> x.addRow(1, 1));
        x.undo();
        check.due("after undo()", 20, () -> x.addRow(2, 1));
        x.setAction(18, 9);
        x.merge(18);
        check.due("after merge()", 21, () -> x.addRow(1, 1));
        x.prune();
        check.due("after prune()", 22, () -> x.addRow(1, 1));
        AskedRules like = new AskedRules();
        for (int i = 0; i < 20; i++) {
            like.addRow(0, 1);
        }
        like.mergeAll();
        check.due("after mergeAll()", 20, () -> like.addRow(0, 1));
    }

    private static void rangeAheadOfTheTwentyFirst() {
        check.about("addRow: the exception that is listed first is thrown");
        AskedRules x = Tables.withRows(20);
        check.argument("full, action -1", () -> x.addRow(1, -1));
        check.argument("full, action 10", () -> x.addRow(1, 10));
        check.argument("full, negative", () -> x.addRow(-1, 1));
        check.argument("full, empty", () -> x.addRow(0, 1));
        check.argument("full, no answer", () -> x.addRow(4, 1));
        check.argument("full, beyond", () -> x.addRow(0x11, 1));
    }

    private static void firstSetLiesLowest() {
        check.about("addRow: 4 bits for each condition, that of condition 0 in the lowest bits");
        AskedRules x = Tables.with(4, 4, 4, 4, 4);
        x.addRow(0x8a531, 2);
        int[] want = {1, 3, 5, 10, 8};
        for (int condition = 0; condition < 5; condition++) {
            int which = condition;
            check.due("set " + which, want[which], () -> x.answers(0, which));
        }
    }

    private static void rowWithoutConditions() {
        check.about("Without conditions a row has no sets, and tells the case 0");
        AskedRules x = new AskedRules();
        check.due("addRow(0, 6)", 0, () -> x.addRow(0, 6));
        check.argument("addRow(1, 6)", () -> x.addRow(1, 6));
        check.due("its sets", 0, () -> x.row(0, 5));
        check.index("no set", () -> x.answers(0, 0));
        check.due("its cases", 1, () -> x.row(0, 2));
        check.due("row of the case 0", 0, () -> x.caseOf(0, 0));
        check.due("action of the case 0", 6, () -> x.caseOf(0, 1));
    }

    private static void newRowComesToTheEnd() {
        check.about("a new row comes to its end");
        AskedRules x = Tables.withRows(3);
        x.moveUp(2);
        x.moveUp(2);
        x.addRow(3, 1);
        order("after addRow()", "2 0 1 3", x);
        Tables.run(x, "if ->1;");
        order("after a command", "2 0 1 3 4", x);
        check.due("its place", 4, () -> x.row(4, 0));
    }

    private static void numbersOfRows() {
        rowsAreNumberedFromZero();
        numbersAreNotUsedAgain();
        numbersAreUsedAgainAfterUndo();
        numbersGrowBeyondTwenty();
    }

    private static void rowsAreNumberedFromZero() {
        check.about("each gets the next number, from 0 on, when it is added");
        AskedRules x = Tables.with(2);
        for (int i = 0; i < 20; i++) {
            int number = i;
            check.due("number", number, () -> x.addRow(1, 0));
        }
        AskedRules refused = Tables.with(2);
        Check.outcome(() -> refused.addRow(0, 0));
        Check.outcome(() -> refused.addRow(1, 10));
        check.due("a call that throws takes no number", 0, () -> refused.addRow(1, 0));
        AskedRules full = Tables.withRows(20);
        Check.outcome(() -> full.addRow(1, 0));
        full.dropRow(0);
        check.due("nor one without room", 20, () -> full.addRow(1, 0));
    }

    private static void numbersAreNotUsedAgain() {
        check.about("numbers are not used again");
        AskedRules x = new AskedRules();
        x.addRow(0, 1);
        x.dropRow(0);
        check.due("after dropRow() of the last", 1, () -> x.addRow(0, 1));
        x.addRow(0, 1);
        x.merge(1);
        check.due("after merge()", 3, () -> x.addRow(0, 1));
        x.mergeAll();
        check.due("after mergeAll()", 4, () -> x.addRow(0, 2));
        x.prune();
        check.due("after prune()", 5, () -> x.addRow(0, 1));
        Tables.run(x, "drop 5;");
        check.due("after a command", 6, () -> x.addRow(0, 1));
        check.index("the row 2 is gone for good", () -> x.row(2, 0));
    }

    private static void numbersAreUsedAgainAfterUndo() {
        check.about("numbers are not used again (but by undo())");
        AskedRules x = new AskedRules();
        x.addRow(0, 1);
        x.addRow(0, 2);
        x.undo();
        check.due("after undo of addRow()", 1, () -> x.addRow(0, 3));
        Tables.run(x, "if >1;if >2;drop 3;");
        check.due("added", 4, () -> x.whole(10));
        x.undo();
        check.due("after undo of runCommands()", 2, () -> x.addRow(0, 3));
        x.dropRow(2);
        x.undo();
        check.due("not after undo of dropRow()", 3, () -> x.addRow(0, 3));
        check.index("no such row yet", () -> x.row(4, 0));
    }

    private static void numbersGrowBeyondTwenty() {
        check.about("rows get the next number, also beyond 20 and 99");
        AskedRules x = Tables.with(2);
        for (int i = 0; i < 120; i++) {
            int number = i;
            check.due("number", number, () -> x.addRow(1, number % 10));
            if (i % 2 == 1) {
                x.dropRow(i - 1);
                x.dropRow(i);
            }
        }
        x.addRow(2, 3);
        check.due("added", 121, () -> x.whole(10));
        check.due("rows", 1, () -> x.whole(2));
        check.due("its action", 3, () -> x.row(120, 1));
        check.index("the row 0", () -> x.row(0, 1));
        check.due("its place", 0, () -> x.dropRow(120));
    }

    // ---- promise 5

    private static void setAnswers() {
        answersOfNoRow();
        answersOfNoCondition();
        setIsNotEmpty();
        setIsNotNegative();
        setHasAnswersAlone();
        rowAndConditionAheadOfSet();
        previousSet();
    }

    private static void answersOfNoRow() {
        check.about("setAnswers: IndexOutOfBoundsException if there is no such row");
        check.index("without rows", () -> Tables.with(2).setAnswers(0, 0, 1));
        AskedRules x = Tables.withRows(20);
        for (int row : new int[] {LEAST, -1, 20, 21, MOST}) {
            check.index("row " + row, () -> x.setAnswers(row, 0, 1));
        }
        check.due("the last one", 2, () -> x.setAnswers(19, 0, 1));
        x.dropRow(4);
        check.index("that is gone", () -> x.setAnswers(4, 0, 1));
        check.due("the one behind it", 2, () -> x.setAnswers(5, 0, 2));
    }

    private static void answersOfNoCondition() {
        check.about("setAnswers: IndexOutOfBoundsException if there is no such condition");
        AskedRules none = new AskedRules();
        none.addRow(0, 1);
        check.index("without conditions", () -> none.setAnswers(0, 0, 1));
        AskedRules x = Tables.with(2, 2, 2, 2, 2);
        x.addRow(0x11111, 1);
        for (int condition : new int[] {LEAST, -1, 5, 8, 32, MOST}) {
            check.index("condition " + condition, () -> x.setAnswers(0, condition, 1));
        }
        check.due("the last one", 1, () -> x.setAnswers(0, 4, 2));
        AskedRules one = Tables.withRows(1);
        check.index("one more than there are", () -> one.setAnswers(0, 1, 1));
    }

    private static void setIsNotEmpty() {
        check.about("setAnswers: IllegalArgumentException if set is empty");
        AskedRules x = Tables.with(2, 3, 4);
        x.addRow(0x111, 1);
        for (int condition = 0; condition < 3; condition++) {
            int which = condition;
            check.argument("condition " + which, () -> x.setAnswers(0, which, 0));
        }
        check.due("sets", 0x111, () -> x.row(0, 5));
    }

    private static void setIsNotNegative() {
        check.about("setAnswers: IllegalArgumentException if set is negative");
        AskedRules x = Tables.with(4);
        x.addRow(1, 1);
        for (int set : new int[] {-1, -2, -15, LEAST, LEAST | 1, LEAST | 15}) {
            check.argument("set " + set, () -> x.setAnswers(0, 0, set));
        }
    }

    private static void setHasAnswersAlone() {
        check.about("setAnswers: IllegalArgumentException if set has a bit that is no answer");
        for (int answers = 2; answers <= 4; answers++) {
            AskedRules x = Tables.with(4, answers, 4);
            x.addRow(0x111, 1);
            int all = (1 << answers) - 1;
            for (int bit = answers; bit < 31; bit++) {
                int set = 1 << bit;
                check.argument("set " + set, () -> x.setAnswers(0, 1, set));
                check.argument("set with all answers and " + set, () -> x.setAnswers(0, 1, set | all));
            }
            check.argument("the greatest one", () -> x.setAnswers(0, 1, MOST));
            int previous = 1;
            for (int set = 1; set <= all; set++) {
                int now = set;
                int before = previous;
                check.due("set " + set, before, () -> x.setAnswers(0, 1, now));
                previous = set;
            }
            check.due("sets", 0x101 | all << 4, () -> x.row(0, 5));
        }
    }

    private static void rowAndConditionAheadOfSet() {
        check.about("setAnswers: the exception that is listed first is thrown");
        AskedRules x = Tables.withRows(1);
        check.index("no row, empty", () -> x.setAnswers(1, 0, 0));
        check.index("no row, negative", () -> x.setAnswers(-1, 0, -1));
        check.index("no condition, empty", () -> x.setAnswers(0, 1, 0));
        check.index("no condition, negative", () -> x.setAnswers(0, -1, -1));
        check.index("no condition, no answer", () -> x.setAnswers(0, 5, 16));
        check.index("neither", () -> x.setAnswers(1, 1, 16));
    }

    private static void previousSet() {
        check.about("setAnswers: Returns the previous set");
        AskedRules x = Tables.with(4, 2);
        x.addRow(0x2c, 1);
        check.due("of addRow()", 12, () -> x.setAnswers(0, 0, 3));
        check.due("of setAnswers()", 3, () -> x.setAnswers(0, 0, 3));
        check.due("the same again", 3, () -> x.setAnswers(0, 0, 15));
        check.due("of the other condition", 2, () -> x.setAnswers(0, 1, 1));
        x.addCondition(3, 1);
        check.due("of addCondition()", 7, () -> x.setAnswers(0, 2, 4));
        check.due("sets", 0x41f, () -> x.row(0, 5));
    }

    // ---- promise 6

    private static void setAction() {
        actionOfNoRow();
        actionInRange();
        rowAheadOfAction();
        previousAction();
    }

    private static void actionOfNoRow() {
        check.about("setAction: IndexOutOfBoundsException if there is no such row");
        check.index("without rows", () -> new AskedRules().setAction(0, 1));
        AskedRules x = Tables.withRows(20);
        for (int row : new int[] {LEAST, -1, 20, 21, MOST}) {
            check.index("row " + row, () -> x.setAction(row, 1));
        }
        check.due("the last one", 9, () -> x.setAction(19, 1));
        x.dropRow(19);
        check.index("that is gone", () -> x.setAction(19, 1));
    }

    private static void actionInRange() {
        check.about("setAction: IllegalArgumentException if action is out of range (0 to 9)");
        AskedRules x = Tables.withRows(1);
        for (int action : new int[] {LEAST, -1, 10, 11, MOST}) {
            check.argument("action " + action, () -> x.setAction(0, action));
        }
        for (int action = 9; action >= 0; action--) {
            int its = action;
            x.setAction(0, its);
            check.due("action", its, () -> x.row(0, 1));
        }
    }

    private static void rowAheadOfAction() {
        check.about("setAction: the exception that is listed first is thrown");
        AskedRules x = Tables.withRows(1);
        check.index("no row, action 10", () -> x.setAction(1, 10));
        check.index("no row, action -1", () -> x.setAction(-1, -1));
    }

    private static void previousAction() {
        check.about("setAction: Returns the previous action");
        AskedRules x = Tables.withRows(2);
        check.due("of addRow()", 1, () -> x.setAction(1, 0));
        check.due("of setAction()", 0, () -> x.setAction(1, 0));
        check.due("the same again", 0, () -> x.setAction(1, 9));
        check.due("of the other row", 0, () -> x.setAction(0, 5));
        check.due("it stays", 9, () -> x.row(1, 1));
    }

    // ---- promise 7

    private static void dropRow() {
        dropOfNoRow();
        placeOfTheDroppedRow();
        dropOfTheOnlyRow();
        dropOutOfTwenty();
    }

    private static void dropOfNoRow() {
        check.about("dropRow: IndexOutOfBoundsException if there is no such row");
        check.index("without rows", () -> new AskedRules().dropRow(0));
        AskedRules x = Tables.withRows(20);
        for (int row : new int[] {LEAST, -1, 20, 21, MOST}) {
            check.index("row " + row, () -> x.dropRow(row));
        }
        x.dropRow(19);
        check.index("that is gone", () -> x.dropRow(19));
        x.dropRow(0);
        check.index("that is gone", () -> x.dropRow(0));
        check.due("rows", 18, () -> x.whole(2));
    }

    private static void placeOfTheDroppedRow() {
        check.about("dropRow: Returns its place in the order, from 0");
        AskedRules x = Tables.withRows(5);
        x.moveUp(4);
        check.due("the one that went up", 3, () -> x.dropRow(4));
        check.due("the last", 3, () -> x.dropRow(3));
        check.due("the first", 0, () -> x.dropRow(0));
        check.due("the last of two", 1, () -> x.dropRow(2));
        order("then", "1", x);
    }

    private static void dropOfTheOnlyRow() {
        check.about("dropRow: Removes a row, also the only one");
        AskedRules x = Tables.withRows(1);
        check.due("its place", 0, () -> x.dropRow(0));
        check.due("rows", 0, () -> x.whole(2));
        check.due("no row", NONE, () -> x.rowAt(0));
        check.due("holes", 2, () -> x.whole(3));
    }

    private static void dropOutOfTwenty() {
        check.about("dropRow: Removes a row, also when there are 20");
        AskedRules x = Tables.withRows(20);
        x.dropRow(19);
        x.undo();
        x.dropRow(0);
        check.due("rows", 19, () -> x.whole(2));
        check.due("first", 1, () -> x.rowAt(0));
        check.due("last", 19, () -> x.rowAt(18));
        check.due("none behind", NONE, () -> x.rowAt(19));
        check.due("action of the last", 9, () -> x.row(19, 1));
        check.due("set of the last", 2, () -> x.row(19, 5));
    }

    // ---- promise 8

    private static void moveUp() {
        upOfNoRow();
        upOfTheFirst();
        placeAfterUp();
        upOfTheLast();
    }

    private static void upOfNoRow() {
        check.about("moveUp: IndexOutOfBoundsException if there is no such row");
        check.index("without rows", () -> new AskedRules().moveUp(0));
        AskedRules x = Tables.withRows(20);
        for (int row : new int[] {LEAST, -1, 20, 21, MOST}) {
            check.index("row " + row, () -> x.moveUp(row));
        }
        x.dropRow(3);
        check.index("that is gone", () -> x.moveUp(3));
    }

    private static void upOfTheFirst() {
        check.about("moveUp: IllegalStateException if it is the first one");
        check.state("the only one", () -> Tables.withRows(1).moveUp(0));
        AskedRules x = Tables.withRows(3);
        check.state("the first one", () -> x.moveUp(0));
        x.moveUp(1);
        check.state("the one that came there", () -> x.moveUp(1));
        check.due("no more the one that was there", 0, () -> x.moveUp(0));
        x.dropRow(0);
        x.dropRow(1);
        check.state("the one that is left", () -> x.moveUp(2));
    }

    private static void placeAfterUp() {
        check.about("moveUp: Moves a row ahead of the one in front of it; Returns its place then");
        AskedRules x = Tables.withRows(4);
        check.due("place", 2, () -> x.moveUp(3));
        order("then", "0 1 3 2", x);
        check.due("place", 1, () -> x.moveUp(3));
        order("then", "0 3 1 2", x);
        check.due("place", 0, () -> x.moveUp(3));
        order("then", "3 0 1 2", x);
        check.due("its action", 3, () -> x.row(3, 1));
        check.due("its set", 2, () -> x.row(3, 5));
        check.due("action of the one behind", 0, () -> x.row(0, 1));
        check.due("set of the one behind", 1, () -> x.row(0, 5));
    }

    private static void upOfTheLast() {
        check.about("moveUp: also the last one of 20");
        AskedRules x = Tables.withRows(20);
        check.due("place", 18, () -> x.moveUp(19));
        check.due("behind it", 18, () -> x.rowAt(19));
        check.due("rows", 20, () -> x.whole(2));
    }

    // ---- promise 9

    private static void merge() {
        mergeOfNoRow();
        mergeWithoutANextOne();
        mergeOfUnlikeActions();
        mergeOfUnlikeSets();
        mergeOfLikeSets();
        mergeGivesTheUnion();
        mergeWithoutConditions();
        numberOfTheMergedRow();
    }

    private static void mergeOfNoRow() {
        check.about("merge: IndexOutOfBoundsException if there is no such row");
        check.index("without rows", () -> new AskedRules().merge(0));
        AskedRules x = Tables.withRows(2);
        for (int row : new int[] {LEAST, -1, 2, 20, MOST}) {
            check.index("row " + row, () -> x.merge(row));
        }
        x.setAction(1, 0);
        x.merge(0);
        check.index("that is gone", () -> x.merge(1));
    }

    private static void mergeWithoutANextOne() {
        check.about("merge: IllegalStateException if there is no next one");
        check.state("the only one", () -> Tables.withRows(1).merge(0));
        AskedRules x = new AskedRules();
        for (int i = 0; i < 20; i++) {
            x.addRow(0, 1);
        }
        check.state("the last of twenty", () -> x.merge(19));
        check.due("the last but one", 19, () -> x.merge(18));
        check.state("it is the last then", () -> x.merge(18));
        AskedRules gone = Tables.withRows(2);
        gone.setAction(1, 0);
        gone.dropRow(1);
        check.state("the next one is gone", () -> gone.merge(0));
    }

    private static void mergeOfUnlikeActions() {
        check.about("merge: they can be merged if their actions are alike");
        AskedRules x = Tables.with(2);
        x.addRow(1, 4);
        x.addRow(1, 5);
        x.addRow(1, 4);
        check.state("sets alike, actions unlike", () -> x.merge(0));
        check.state("sets alike, actions unlike", () -> x.merge(1));
        x.moveUp(2);
        check.due("next to each other now", 2, () -> x.merge(0));
    }

    private static void mergeOfUnlikeSets() {
        check.about("merge: they can be merged if their sets are alike for all conditions but one");
        for (int one = 0; one < 5; one++) {
            for (int two = one; two < 5; two++) {
                AskedRules x = Tables.with(2, 2, 2, 2, 2);
                x.addRow(0x11111, 1);
                x.addRow(0x11111 ^ 3 << 4 * one ^ (two == one ? 0 : 3 << 4 * two), 1);
                if (one == two) {
                    check.due("unlike for " + one, 1, () -> x.merge(0));
                } else {
                    check.state("unlike for " + one + " and " + two, () -> x.merge(0));
                }
            }
        }
        AskedRules x = Tables.with(4, 4);
        x.addRow(0x33, 1);
        x.addRow(0x11, 1);
        check.state("two sets unlike, though one row has all that the other has", () -> x.merge(0));
    }

    private static void mergeOfLikeSets() {
        check.about("merge: (or for all)");
        AskedRules x = Tables.with(2, 4);
        x.addRow(0x51, 3);
        x.addRow(0x51, 3);
        check.due("gone", 1, () -> x.merge(0));
        check.due("its sets", 0x51, () -> x.row(0, 5));
        check.due("its action", 3, () -> x.row(0, 1));
    }

    private static void mergeGivesTheUnion() {
        check.about("merge: the first one gets, for this condition, the union of both sets");
        int[][] pairs = {{1, 2}, {3, 6}, {15, 1}, {8, 7}, {4, 12}, {1, 15}};
        for (int[] pair : pairs) {
            AskedRules x = Tables.with(4, 4);
            x.addRow(0x50 | pair[0], 2);
            x.addRow(0x50 | pair[1], 2);
            x.merge(0);
            check.due("of " + pair[0] + " and " + pair[1], pair[0] | pair[1], () -> x.answers(0, 0));
            check.due("the other condition", 5, () -> x.answers(0, 1));
        }
    }

    private static void mergeWithoutConditions() {
        check.about("merge: without conditions a row has no sets, so that they are alike");
        AskedRules x = new AskedRules();
        x.addRow(0, 1);
        x.addRow(0, 1);
        x.addRow(0, 2);
        check.due("gone", 1, () -> x.merge(0));
        check.state("unlike actions", () -> x.merge(0));
        check.due("sets", 0, () -> x.row(0, 5));
    }

    private static void numberOfTheMergedRow() {
        check.about("merge: Returns the number of the row that is gone");
        AskedRules x = new AskedRules();
        for (int i = 0; i < 4; i++) {
            x.addRow(0, 1);
        }
        x.moveUp(3);
        check.due("gone", 3, () -> x.merge(1));
        check.index("it is gone", () -> x.row(3, 0));
        check.due("gone", 2, () -> x.merge(1));
        check.due("gone", 1, () -> x.merge(0));
        order("then", "0", x);
    }

    // ---- promise 10

    private static void mergeAll() {
        mergeAllOfNothing();
        mergeAllOfThoseThatCannot();
        mergeAllTakesTheFirstPair();
        mergeAllGoesOnAndOn();
        mergeAllGoesBackToTheFront();
    }

    private static void mergeAllOfNothing() {
        check.about("mergeAll: Returns the number of rows that are gone by it: none without a pair");
        check.due("without rows", 0, () -> new AskedRules().mergeAll());
        check.due("of one row", 0, () -> Tables.withRows(1).mergeAll());
    }

    private static void mergeAllOfThoseThatCannot() {
        check.about("mergeAll: which can be merged");
        AskedRules x = Tables.with(2, 2);
        x.addRow(0x11, 1);
        x.addRow(0x11, 2);
        x.addRow(0x22, 2);
        x.addRow(0x33, 2);
        check.due("unlike actions, two sets unlike", 0, () -> x.mergeAll());
        order("then", "0 1 2 3", x);
    }

    private static void mergeAllTakesTheFirstPair() {
        check.about("mergeAll: the first two rows that stand next to each other and can be merged are merged");
        AskedRules x = Tables.with(2, 2);
        x.addRow(0x11, 1);
        x.addRow(0x12, 1);
        x.addRow(0x22, 1);
        x.addRow(0x21, 1);
        // 0 with 1, then 2 with 3, then both; had 1 gone with 2 first, three were left
        check.due("gone", 3, () -> x.mergeAll());
        AskedRules y = Tables.with(3, 2);
        y.addRow(0x11, 1);
        y.addRow(0x12, 1);
        y.addRow(0x22, 1);
        check.due("gone", 1, () -> y.mergeAll());
        order("then", "0 2", y);
        check.due("sets of the first", 0x13, () -> y.row(0, 5));
        check.due("sets of the other", 0x22, () -> y.row(2, 5));
    }

    private static void mergeAllGoesOnAndOn() {
        check.about("mergeAll: again and again, until there are none");
        AskedRules x = new AskedRules();
        for (int i = 0; i < 20; i++) {
            x.addRow(0, 3);
        }
        check.due("twenty alike", 19, () -> x.mergeAll());
        order("then", "0", x);
        check.due("once more", 0, () -> x.mergeAll());
        AskedRules pairs = Tables.with(2);
        for (int i = 0; i < 20; i++) {
            pairs.addRow(1 + i % 2, i / 2);
        }
        check.due("ten pairs", 10, () -> pairs.mergeAll());
        order("then", "0 2 4 6 8 10 12 14 16 18", pairs);
    }

    private static void mergeAllGoesBackToTheFront() {
        check.about("mergeAll: also a pair further up that can be merged only then");
        AskedRules x = Tables.with(4, 2);
        x.addRow(0x3f, 1);
        x.addRow(0x17, 1);
        x.addRow(0x18, 1);
        // 1 with 2 first, as 0 and 1 are unlike for both; what comes of it goes with 0
        check.due("gone", 2, () -> x.mergeAll());
        order("then", "0", x);
        check.due("sets", 0x3f, () -> x.row(0, 5));
    }

    // ---- promise 11

    private static void prune() {
        pruneOfNothing();
        pruneOfAllButTheFirst();
        pruneKeepsWhatIsNeeded();
        pruneOfWhatSeveralHide();
    }

    private static void pruneOfNothing() {
        check.about("prune: Returns the number of rows that are removed: none if all are needed");
        check.due("without rows", 0, () -> Tables.with(2).prune());
        AskedRules x = Tables.withRows(2);
        check.due("all are needed", 0, () -> x.prune());
        order("then", "0 1", x);
    }

    private static void pruneOfAllButTheFirst() {
        check.about("prune: Removes all rows that are not needed");
        AskedRules x = new AskedRules();
        for (int i = 0; i < 20; i++) {
            x.addRow(0, i % 10);
        }
        check.due("removed", 19, () -> x.prune());
        order("then", "0", x);
        check.due("removed then", 0, () -> x.prune());
        AskedRules y = Tables.with(2);
        y.addRow(1, 1);
        y.addRow(1, 1);
        y.addRow(2, 1);
        y.addRow(1, 1);
        y.addRow(2, 1);
        check.due("removed", 3, () -> y.prune());
        order("then", "0 2", y);
    }

    private static void pruneKeepsWhatIsNeeded() {
        check.about("A row is needed if it is the row of some case: of one is enough");
        AskedRules x = Tables.with(4, 4);
        x.addRow(0x7f, 1);
        x.addRow(0xf7, 1);
        x.addRow(0xff, 1);
        check.due("removed", 0, () -> x.prune());
        order("then", "0 1 2", x);
        check.due("cases of the last", 1, () -> x.row(2, 3));
    }

    private static void pruneOfWhatSeveralHide() {
        check.about("A row is not needed if others, taken together, are the rows of all its cases");
        AskedRules x = Tables.with(3);
        x.addRow(1, 1);
        x.addRow(2, 1);
        x.addRow(3, 2);
        x.addRow(4, 2);
        x.addRow(7, 2);
        check.due("removed", 2, () -> x.prune());
        order("then", "0 1 3", x);
    }
}
