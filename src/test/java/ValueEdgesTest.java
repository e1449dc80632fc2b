/** Promises 12 to 24: a test for each sentence that names a boundary case. */
public final class ValueEdgesTest {
    private static final Check check = new Check("ValueEdgesTest");
    private static final int LEAST = Tables.LEAST;
    private static final int MOST = Tables.MOST;
    private static final int NONE = Tables.NONE;
    private static final int HOLE = 10;

    public static void main(String[] args) {
        condition();
        row();
        answers();
        rowAt();
        caseOf();
        answerOf();
        hole();
        whole();
        questions();
        reason();
        ask();
        costFrom();
        changedWithout();
        bestAction();
        check.close();
    }

    // ---- promise 12

    private static void condition() {
        valueOfNoCondition();
        valueOfAConditionInRange();
        conditionAheadOfItsValue();
        holeCountsWhereItMatters();
        mattersForTwoCasesAlone();
        doesNotMatter();
        mattersByTheRowOfTheCase();
    }

    private static void valueOfNoCondition() {
        check.about("condition: IndexOutOfBoundsException if there is no such condition");
        check.index("without conditions", () -> new AskedRules().condition(0, 0));
        AskedRules x = Tables.with(2, 2, 2, 2, 4);
        for (int condition : new int[] {LEAST, -1, 5, 6, MOST}) {
            for (int what = 0; what <= 2; what++) {
                int which = what;
                check.index("condition(" + condition + ", " + which + ")", () -> x.condition(condition, which));
            }
        }
        check.due("the last one", 4, () -> x.condition(4, 0));
        x.undo();
        check.index("that is no more", () -> x.condition(4, 0));
    }

    private static void valueOfAConditionInRange() {
        check.about("condition: IllegalArgumentException if what is out of range (0 to 2)");
        AskedRules x = Tables.with(3);
        for (int what : new int[] {LEAST, -1, 3, 4, MOST}) {
            check.argument("what " + what, () -> x.condition(0, what));
        }
        check.due("answers", 3, () -> x.condition(0, 0));
        check.due("cost", 1, () -> x.condition(0, 1));
        check.due("whether it matters", 0, () -> x.condition(0, 2));
    }

    private static void conditionAheadOfItsValue() {
        check.about("condition: the exception that is listed first is thrown");
        check.index("neither", () -> new AskedRules().condition(0, 3));
        check.index("neither", () -> Tables.with(2).condition(-1, -1));
    }

    private static void holeCountsWhereItMatters() {
        check.about("condition: it matters (a hole counts as an action)");
        for (int action = 0; action <= 9; action++) {
            AskedRules x = Tables.with(2);
            x.addRow(1, action);
            check.due("hole and action " + action, 1, () -> x.condition(0, 2));
        }
        check.due("holes alone", 0, () -> Tables.with(2).condition(0, 2));
    }

    private static void mattersForTwoCasesAlone() {
        check.about("condition: 1 if some two cases that differ in it alone have rows with unlike actions");
        for (int condition = 0; condition < 3; condition++) {
            for (int answer = 0; answer < 4; answer++) {
                AskedRules x = Tables.with(4, 4, 4);
                int which = condition;
                x.addRow(0x888 & ~(15 << 4 * which) | 1 << 4 * which + answer, 3);
                x.addRow(0xfff, 7);
                check.due("one case of 64 is unlike", 1, () -> x.condition(which, 2));
            }
        }
        AskedRules x = Tables.with(2, 2);
        x.addRow(0x31, 1);
        x.addRow(0x32, 2);
        check.due("they differ in 0 alone", 1, () -> x.condition(0, 2));
        check.due("they differ in 1 alone", 0, () -> x.condition(1, 2));
        AskedRules y = Tables.with(2, 2);
        y.addRow(0x13, 1);
        y.addRow(0x23, 2);
        check.due("those that are unlike differ in 1, too", 0, () -> y.condition(0, 2));
        check.due("those that are unlike differ in 1", 1, () -> y.condition(1, 2));
    }

    private static void doesNotMatter() {
        check.about("condition: or 0 if not");
        AskedRules x = Tables.with(2, 3, 4);
        x.addRow(0x333, 5);
        x.addRow(0xff & 0x73 | 0xf00, 5);
        for (int condition = 0; condition < 3; condition++) {
            int which = condition;
            check.due("all actions are alike", 0, () -> x.condition(which, 2));
        }
        x.addCondition(4, 1);
        check.due("a new one, whose answers are all in all sets", 0, () -> x.condition(3, 2));
    }

    private static void mattersByTheRowOfTheCase() {
        check.about("condition: what the rows behind the row of a case tell does not count");
        AskedRules x = Tables.with(2);
        x.addRow(3, 1);
        x.addRow(1, 2);
        check.due("hidden", 0, () -> x.condition(0, 2));
        x.moveUp(1);
        check.due("in front", 1, () -> x.condition(0, 2));
        x.setAction(1, 1);
        check.due("of like action", 0, () -> x.condition(0, 2));
    }

    // ---- promise 13

    private static void row() {
        valueOfNoRow();
        valueOfARowInRange();
        rowAheadOfItsValue();
        casesThatARowTells();
        casesWhoseRowItIs();
        neededForOneCase();
        setsOfARow();
    }

    private static void valueOfNoRow() {
        check.about("row: IndexOutOfBoundsException if there is no such row");
        check.index("without rows", () -> new AskedRules().row(0, 0));
        AskedRules x = Tables.withRows(20);
        for (int row : new int[] {LEAST, -1, 20, 21, MOST}) {
            for (int what = 0; what <= 5; what++) {
                int which = what;
                check.index("row(" + row + ", " + which + ")", () -> x.row(row, which));
            }
        }
        check.due("the last one", 19, () -> x.row(19, 0));
        x.dropRow(19);
        check.index("that is gone", () -> x.row(19, 0));
        x.dropRow(4);
        check.index("that is gone, out of the middle", () -> x.row(4, 0));
    }

    private static void valueOfARowInRange() {
        check.about("row: IllegalArgumentException if what is out of range (0 to 5)");
        AskedRules x = Tables.withRows(1);
        for (int what : new int[] {LEAST, -1, 6, 7, MOST}) {
            check.argument("what " + what, () -> x.row(0, what));
        }
        int[] want = {0, 0, 1, 1, 1, 1};
        for (int what = 0; what <= 5; what++) {
            int which = what;
            check.due("what " + which, want[which], () -> x.row(0, which));
        }
    }

    private static void rowAheadOfItsValue() {
        check.about("row: the exception that is listed first is thrown");
        check.index("neither", () -> new AskedRules().row(0, 6));
        check.index("neither", () -> Tables.withRows(1).row(1, -1));
    }

    private static void casesThatARowTells() {
        check.about("row: 2 number of cases that it tells, one at the least and all at the most");
        AskedRules x = Tables.with(4, 4, 4, 4, 4);
        x.addRow(0x84218, 1);
        x.addRow(0xfffff, 1);
        x.addRow(0xfffff, 1);
        check.due("one", 1, () -> x.row(0, 2));
        check.due("all", 1024, () -> x.row(1, 2));
        check.due("all, though it is the row of none", 1024, () -> x.row(2, 2));
        AskedRules none = new AskedRules();
        none.addRow(0, 1);
        check.due("without conditions", 1, () -> none.row(0, 2));
        none.addCondition(3, 1);
        check.due("with one then", 3, () -> none.row(0, 2));
    }

    private static void casesWhoseRowItIs() {
        check.about("row: 3 number of cases whose row it is, none at the least and all at the most");
        AskedRules x = Tables.with(4, 4, 4, 4, 4);
        x.addRow(0x84218, 1);
        x.addRow(0xfffff, 2);
        x.addRow(0x11111, 3);
        check.due("one", 1, () -> x.row(0, 3));
        check.due("all but that", 1023, () -> x.row(1, 3));
        check.due("none", 0, () -> x.row(2, 3));
        x.moveUp(1);
        check.due("all", 1024, () -> x.row(1, 3));
        check.due("none then", 0, () -> x.row(0, 3));
        x.moveUp(0);
        check.due("one again", 1, () -> x.row(0, 3));
        AskedRules last = new AskedRules();
        last.addCondition(2, 1);
        for (int i = 0; i < 19; i++) {
            last.addRow(1, 1);
        }
        last.addRow(2, 2);
        for (int i = 0; i < 3; i++) {
            check.due("of the last of twenty", 1, () -> last.row(19, 3));
            last.setAction(19, 3);
        }
    }

    private static void neededForOneCase() {
        check.about("row: 4 1 if it is needed or 0 if not: if it is the row of some case");
        AskedRules x = Tables.with(2);
        x.addRow(1, 1);
        x.addRow(3, 1);
        x.addRow(2, 1);
        check.due("of all that it tells", 1, () -> x.row(0, 4));
        check.due("of one of two", 1, () -> x.row(1, 4));
        check.due("of none", 0, () -> x.row(2, 4));
        x.setAnswers(1, 0, 1);
        check.due("of none now", 0, () -> x.row(1, 4));
        check.due("needed now", 1, () -> x.row(2, 4));
    }

    private static void setsOfARow() {
        check.about("row: 5 its sets, as for addRow()");
        AskedRules none = new AskedRules();
        none.addRow(0, 1);
        check.due("without conditions", 0, () -> none.row(0, 5));
        AskedRules x = Tables.with(4, 4, 4, 4, 4);
        for (int sets : new int[] {0xfffff, 0x11111, 0x88888, 0x12345, 0xfedcb}) {
            int row = x.addRow(sets, 1);
            check.due("sets", sets, () -> x.row(row, 5));
        }
    }

    // ---- promise 14

    private static void answers() {
        setOfNoRow();
        setOfNoCondition();
        setsFromOneAnswerToAll();
    }

    private static void setOfNoRow() {
        check.about("answers: IndexOutOfBoundsException if there is no such row");
        check.index("without rows", () -> Tables.with(2).answers(0, 0));
        AskedRules x = Tables.withRows(20);
        for (int row : new int[] {LEAST, -1, 20, 21, MOST}) {
            check.index("row " + row, () -> x.answers(row, 0));
        }
        check.due("the last one", 2, () -> x.answers(19, 0));
        x.dropRow(0);
        check.index("that is gone", () -> x.answers(0, 0));
    }

    private static void setOfNoCondition() {
        check.about("answers: IndexOutOfBoundsException if there is no such condition");
        AskedRules x = new AskedRules();
        x.addRow(0, 1);
        check.index("without conditions", () -> x.answers(0, 0));
        for (int i = 0; i < 5; i++) {
            int condition = i;
            check.index("not yet", () -> x.answers(0, condition));
            x.addCondition(2, 1);
            check.due("there it is", 3, () -> x.answers(0, condition));
        }
        for (int condition : new int[] {LEAST, -1, 5, 8, 32, MOST}) {
            check.index("condition " + condition, () -> x.answers(0, condition));
        }
        check.index("neither", () -> x.answers(1, 5));
    }

    private static void setsFromOneAnswerToAll() {
        check.about("answers: Returns the set");
        AskedRules x = Tables.with(4, 4, 4, 4, 4);
        x.addRow(0xfffff, 1);
        for (int condition = 0; condition < 5; condition++) {
            int which = condition;
            for (int set : new int[] {1, 8, 15, 6, 9}) {
                x.setAnswers(0, which, set);
                check.due("condition " + which, set, () -> x.answers(0, which));
            }
        }
        check.due("all of them", 0x99999, () -> x.row(0, 5));
    }

    // ---- promise 15

    private static void rowAt() {
        negativePlace();
        placeBehindTheLast();
        placesOfTwenty();
    }

    private static void negativePlace() {
        check.about("rowAt: IllegalArgumentException if place is negative");
        for (int place : new int[] {LEAST, -2, -1}) {
            check.argument("place " + place, () -> Tables.withRows(3).rowAt(place));
            check.argument("place " + place + " without rows", () -> new AskedRules().rowAt(place));
        }
    }

    private static void placeBehindTheLast() {
        check.about("rowAt: NONE if there are not so many");
        check.due("without rows", NONE, () -> new AskedRules().rowAt(0));
        for (int rows : new int[] {1, 19, 20}) {
            AskedRules x = Tables.withRows(rows);
            check.due("the last", rows - 1, () -> x.rowAt(rows - 1));
            for (int place : new int[] {rows, rows + 1, MOST}) {
                check.due("place " + place + " of " + rows, NONE, () -> x.rowAt(place));
            }
        }
        AskedRules x = Tables.withRows(3);
        x.dropRow(0);
        check.due("after dropRow()", NONE, () -> x.rowAt(2));
        check.due("the last then", 2, () -> x.rowAt(1));
    }

    private static void placesOfTwenty() {
        check.about("rowAt: Returns its number, from place 0 on");
        AskedRules x = Tables.withRows(20);
        for (int place = 0; place < 20; place++) {
            int at = place;
            check.due("place " + at, at, () -> x.rowAt(at));
        }
        x.moveUp(19);
        check.due("place 18", 19, () -> x.rowAt(18));
        check.due("place 19", 18, () -> x.rowAt(19));
    }

    // ---- promise 16

    private static void caseOf() {
        noSuchCase();
        onlyCaseWithoutConditions();
        valueOfACaseInRange();
        caseAheadOfItsValue();
        rowOfAHole();
        actionOfAHole();
        rowsThatTellACase();
        conflictOfTwoRows();
        likeActionsAreNoConflict();
        secondRow();
    }

    private static void noSuchCase() {
        check.about("caseOf: IndexOutOfBoundsException if there is no such case");
        int[][] tables = {{}, {2}, {3, 2}, {4, 4, 4, 4}, {4, 4, 4, 4, 4}, {2, 2, 2, 2, 2}};
        int[] cases = {1, 2, 6, 256, 1024, 32};
        for (int i = 0; i < tables.length; i++) {
            AskedRules x = Tables.with(tables[i]);
            int count = cases[i];
            for (int number : new int[] {LEAST, -1, count, count + 1, MOST}) {
                for (int what = 0; what <= 4; what++) {
                    int which = what;
                    check.index("caseOf(" + number + ", " + which + ")", () -> x.caseOf(number, which));
                }
            }
            check.due("the last of " + count, HOLE, () -> x.caseOf(count - 1, 1));
            check.due("the first of " + count, HOLE, () -> x.caseOf(0, 1));
        }
        AskedRules x = Tables.with(2);
        x.caseOf(1, 1);
        x.undo();
        check.index("after undo", () -> x.caseOf(1, 1));
    }

    private static void onlyCaseWithoutConditions() {
        check.about("Without conditions there is just one case, 0");
        AskedRules x = new AskedRules();
        check.due("cases", 1, () -> x.whole(1));
        check.due("its row", NONE, () -> x.caseOf(0, 0));
        check.due("the only hole", 0, () -> x.hole(0));
        check.due("no other", NONE, () -> x.hole(1));
        check.index("no other", () -> x.caseOf(1, 0));
    }

    private static void valueOfACaseInRange() {
        check.about("caseOf: IllegalArgumentException if what is out of range (0 to 4)");
        AskedRules x = new AskedRules();
        x.addRow(0, 6);
        for (int what : new int[] {LEAST, -1, 5, 6, MOST}) {
            check.argument("what " + what, () -> x.caseOf(0, what));
        }
        int[] want = {0, 6, 1, 0, NONE};
        for (int what = 0; what <= 4; what++) {
            int which = what;
            check.due("what " + which, want[which], () -> x.caseOf(0, which));
        }
    }

    private static void caseAheadOfItsValue() {
        check.about("caseOf: the exception that is listed first is thrown");
        check.index("neither", () -> new AskedRules().caseOf(1, 5));
        check.index("neither", () -> new AskedRules().caseOf(-1, -1));
    }

    private static void rowOfAHole() {
        check.about("caseOf: 0 its row (NONE for a hole)");
        AskedRules x = Tables.with(2);
        check.due("without rows", NONE, () -> x.caseOf(0, 0));
        x.addRow(1, 1);
        check.due("told", 0, () -> x.caseOf(0, 0));
        check.due("the other case", NONE, () -> x.caseOf(1, 0));
        x.dropRow(0);
        check.due("not told any more", NONE, () -> x.caseOf(0, 0));
    }

    private static void actionOfAHole() {
        check.about("caseOf: 1 action of its row (10 for a hole)");
        AskedRules x = Tables.with(2);
        check.due("without rows", HOLE, () -> x.caseOf(0, 1));
        x.addRow(1, 0);
        check.due("action 0", 0, () -> x.caseOf(0, 1));
        check.due("the other case", HOLE, () -> x.caseOf(1, 1));
        x.addRow(2, 9);
        check.due("action 9", 9, () -> x.caseOf(1, 1));
    }

    private static void rowsThatTellACase() {
        check.about("caseOf: 2 number of rows that tell it, from none to 20");
        AskedRules x = Tables.with(2, 2);
        for (int rows = 0; rows <= 20; rows++) {
            int count = rows;
            check.due("rows " + count, count, () -> x.caseOf(0, 2));
            check.due("told by none", 0, () -> x.caseOf(3, 2));
            Check.outcome(() -> x.addRow(0x11, 1));
        }
    }

    private static void conflictOfTwoRows() {
        check.about("caseOf: it is a conflict if two of them have unlike actions");
        for (int odd = 0; odd < 20; odd++) {
            AskedRules x = new AskedRules();
            for (int i = 0; i < 20; i++) {
                x.addRow(0, i == odd ? 0 : 9);
            }
            check.due("row " + odd + " is unlike", 1, () -> x.caseOf(0, 3));
        }
        AskedRules x = new AskedRules();
        x.addRow(0, 1);
        x.addRow(0, 2);
        check.due("two", 1, () -> x.caseOf(0, 3));
    }

    private static void likeActionsAreNoConflict() {
        check.about("caseOf: 3 1 if it is a conflict or 0 if not");
        AskedRules x = Tables.with(2);
        check.due("a hole", 0, () -> x.caseOf(0, 3));
        x.addRow(1, 1);
        check.due("one row", 0, () -> x.caseOf(0, 3));
        x.addRow(2, 2);
        check.due("the row of another case", 0, () -> x.caseOf(0, 3));
        x.addRow(3, 1);
        check.due("two of like action", 0, () -> x.caseOf(0, 3));
        check.due("two of unlike actions", 1, () -> x.caseOf(1, 3));
        x.setAction(1, 1);
        check.due("two of like action then", 0, () -> x.caseOf(1, 3));
        x.undo();
        check.due("two of unlike actions again", 1, () -> x.caseOf(1, 3));
        x.dropRow(1);
        check.due("one row then", 0, () -> x.caseOf(1, 3));
    }

    private static void secondRow() {
        check.about("caseOf: 4 the second row in the order that tells it (NONE if there is none)");
        AskedRules x = Tables.with(2);
        check.due("a hole", NONE, () -> x.caseOf(0, 4));
        x.addRow(3, 1);
        check.due("one row", NONE, () -> x.caseOf(0, 4));
        x.addRow(2, 1);
        check.due("one row yet", NONE, () -> x.caseOf(0, 4));
        check.due("two rows", 1, () -> x.caseOf(1, 4));
        x.addRow(3, 2);
        check.due("two rows", 2, () -> x.caseOf(0, 4));
        check.due("three rows", 1, () -> x.caseOf(1, 4));
        x.moveUp(2);
        check.due("three rows, another order", 2, () -> x.caseOf(1, 4));
        x.moveUp(2);
        check.due("the first is no second", 0, () -> x.caseOf(1, 4));
    }

    // ---- promise 17

    private static void answerOf() {
        answerOfNoCase();
        answerToNoCondition();
        numberOfACase();
    }

    private static void answerOfNoCase() {
        check.about("answerOf: IndexOutOfBoundsException if there is no such case");
        AskedRules x = Tables.with(3, 2);
        for (int number : new int[] {LEAST, -1, 6, 7, MOST}) {
            check.index("case " + number, () -> x.answerOf(number, 0));
            check.index("case " + number + ", no condition", () -> x.answerOf(number, 2));
        }
        check.due("the last one", 2, () -> x.answerOf(5, 0));
    }

    private static void answerToNoCondition() {
        check.about("answerOf: IndexOutOfBoundsException if there is no such condition");
        check.index("without conditions", () -> new AskedRules().answerOf(0, 0));
        AskedRules x = Tables.with(2, 2, 2, 2, 2);
        for (int condition : new int[] {LEAST, -1, 5, 6, MOST}) {
            check.index("condition " + condition, () -> x.answerOf(0, condition));
        }
        check.due("the last one", 1, () -> x.answerOf(31, 4));
    }

    private static void numberOfACase() {
        check.about("the number of a case is its answer to condition 0, plus the answers of condition 0 times (..)");
        AskedRules x = Tables.with(4, 2, 3);
        for (int number = 0; number < 24; number++) {
            int its = number;
            check.due("to 0", its % 4, () -> x.answerOf(its, 0));
            check.due("to 1", its / 4 % 2, () -> x.answerOf(its, 1));
            check.due("to 2", its / 8, () -> x.answerOf(its, 2));
        }
        AskedRules big = Tables.with(4, 4, 4, 4, 4);
        for (int condition = 0; condition < 5; condition++) {
            int which = condition;
            check.due("of the first case", 0, () -> big.answerOf(0, which));
            check.due("of the last case", 3, () -> big.answerOf(1023, which));
        }
    }

    // ---- promise 18

    private static void hole() {
        negativeIndex();
        holeBehindTheLast();
        holesFromTheLowest();
    }

    private static void negativeIndex() {
        check.about("hole: IllegalArgumentException if index is negative");
        AskedRules told = new AskedRules();
        told.addRow(0, 1);
        for (int index : new int[] {LEAST, -2, -1}) {
            check.argument("index " + index, () -> new AskedRules().hole(index));
            check.argument("index " + index + " without holes", () -> told.hole(index));
        }
    }

    private static void holeBehindTheLast() {
        check.about("hole: NONE if there are not so many");
        AskedRules x = Tables.with(4, 4, 4, 4, 4);
        check.due("the last of all", 1023, () -> x.hole(1023));
        for (int index : new int[] {1024, 1025, MOST}) {
            check.due("index " + index, NONE, () -> x.hole(index));
        }
        x.addRow(0xfffff, 1);
        check.due("no holes", NONE, () -> x.hole(0));
        check.due("no holes", NONE, () -> x.hole(MOST));
    }

    private static void holesFromTheLowest() {
        check.about("hole: 0 for the lowest one, and so on");
        AskedRules x = Tables.with(2, 3);
        x.addRow(0x21, 1);
        x.addRow(0x12, 1);
        int[] want = {0, 3, 4, 5, NONE};
        for (int i = 0; i < want.length; i++) {
            int index = i;
            check.due("index " + index, want[index], () -> x.hole(index));
        }
    }

    // ---- promise 19

    private static void whole() {
        valueOfTheWholeInRange();
        leastAndMostConditions();
        leastAndMostCases();
        leastAndMostRows();
        leastAndMostHoles();
        overlapOfTwoOrMore();
        leastAndMostConflicts();
        leastAndMostNeeded();
        unlikeActions();
        rowsThatWereAdded();
        lengthOfTheText();
    }

    private static void valueOfTheWholeInRange() {
        check.about("whole: IllegalArgumentException if what is out of range (0 to 11)");
        for (int what : new int[] {LEAST, -1, 12, 13, MOST}) {
            check.argument("what " + what, () -> new AskedRules().whole(what));
        }
        int[] want = {0, 1, 0, 1, 0, 0, 0, 0, NONE, 1, 0, 0};
        for (int what = 0; what <= 11; what++) {
            int which = what;
            check.due("what " + which, want[which], () -> new AskedRules().whole(which));
        }
    }

    private static void leastAndMostConditions() {
        check.about("whole: 0 conditions, none to 5");
        AskedRules x = new AskedRules();
        for (int i = 0; i <= 5; i++) {
            int count = i;
            check.due("conditions", count, () -> x.whole(0));
            Check.outcome(() -> x.addCondition(2, 1));
        }
        check.due("no more", 5, () -> x.whole(0));
    }

    private static void leastAndMostCases() {
        check.about("whole: 1 cases, 1 to 1024");
        AskedRules x = new AskedRules();
        for (int cases = 1; cases <= 1024; cases *= 4) {
            int count = cases;
            check.due("cases", count, () -> x.whole(1));
            Check.outcome(() -> x.addCondition(4, 1));
        }
        check.due("of unlike conditions", 24, () -> Tables.with(2, 3, 4).whole(1));
    }

    private static void leastAndMostRows() {
        check.about("whole: 2 rows, none to 20");
        AskedRules x = new AskedRules();
        for (int i = 0; i <= 20; i++) {
            int count = i;
            check.due("rows", count, () -> x.whole(2));
            Check.outcome(() -> x.addRow(0, 1));
        }
        check.due("no more", 20, () -> x.whole(2));
        x.dropRow(3);
        check.due("one less", 19, () -> x.whole(2));
    }

    private static void leastAndMostHoles() {
        check.about("whole: 3 holes: A case that no row tells is a hole");
        AskedRules x = Tables.with(4, 4, 4, 4, 4);
        check.due("all", 1024, () -> x.whole(3));
        x.addRow(0x11111, 1);
        check.due("all but one", 1023, () -> x.whole(3));
        x.addRow(0xfffff, 1);
        check.due("none", 0, () -> x.whole(3));
    }

    private static void overlapOfTwoOrMore() {
        check.about("whole: 4 overlaps: A case that two or more rows tell is an overlap");
        AskedRules x = Tables.with(4, 4, 4, 4, 4);
        check.due("of no row", 0, () -> x.whole(4));
        x.addRow(0xfffff, 1);
        check.due("of one row", 0, () -> x.whole(4));
        x.addRow(0x11111, 1);
        check.due("of two for one case", 1, () -> x.whole(4));
        x.addRow(0x11111, 1);
        check.due("of three for one case", 1, () -> x.whole(4));
        x.addRow(0xfffff, 1);
        check.due("of two for all", 1024, () -> x.whole(4));
    }

    private static void leastAndMostConflicts() {
        check.about("whole: 5 conflicts: two of them have unlike actions");
        AskedRules x = Tables.with(4, 4, 4, 4, 4);
        check.due("of no row", 0, () -> x.whole(5));
        x.addRow(0xfffff, 1);
        x.addRow(0xfffff, 1);
        check.due("of like actions", 0, () -> x.whole(5));
        x.addRow(0x88888, 2);
        check.due("of one case", 1, () -> x.whole(5));
        x.addRow(0xfffff, 3);
        check.due("of all", 1024, () -> x.whole(5));
    }

    private static void leastAndMostNeeded() {
        check.about("whole: 6 rows that are needed, none to 20");
        check.due("without rows", 0, () -> new AskedRules().whole(6));
        AskedRules x = Tables.with(4, 4, 4);
        for (int i = 0; i < 20; i++) {
            x.addRow(1 << i % 4 | 0x10 << i / 4 % 4 | 0x100 << i / 16, 1);
        }
        check.due("all twenty", 20, () -> x.whole(6));
        AskedRules y = new AskedRules();
        for (int i = 0; i < 20; i++) {
            y.addRow(0, i % 10);
        }
        check.due("one of twenty", 1, () -> y.whole(6));
    }

    private static void unlikeActions() {
        check.about("whole: 9 unlike actions of all cases (a hole counts as one)");
        AskedRules x = Tables.with(4, 4);
        check.due("holes alone", 1, () -> x.whole(9));
        for (int action = 0; action <= 9; action++) {
            x.addRow(1 << action % 4 | 0x10 << action / 4, action);
            int want = action + 2;
            check.due("holes and actions up to " + action, want, () -> x.whole(9));
        }
        x.addRow(0xff, 9);
        check.due("all actions without holes", 10, () -> x.whole(9));
        x.addRow(0xff, 3);
        check.due("a row of no case does not count", 10, () -> x.whole(9));
        AskedRules one = new AskedRules();
        one.addRow(0, 0);
        check.due("action 0 alone", 1, () -> one.whole(9));
    }

    private static void rowsThatWereAdded() {
        check.about("whole: 10 rows that were added, in all");
        AskedRules x = new AskedRules();
        check.due("none", 0, () -> x.whole(10));
        for (int i = 0; i < 20; i++) {
            x.addRow(0, 1);
        }
        check.due("twenty", 20, () -> x.whole(10));
        x.mergeAll();
        check.due("those that are gone count", 20, () -> x.whole(10));
        Tables.run(x, "if >1;drop 20;if >2;");
        check.due("those of commands count", 22, () -> x.whole(10));
        Check.outcome(() -> x.addRow(1, 1));
        check.due("those that were refused do not", 22, () -> x.whole(10));
    }

    private static void lengthOfTheText() {
        check.about("whole: 11 length of the command text, none to 150");
        AskedRules x = new AskedRules();
        for (int i = 0; i < 150; i++) {
            int length = i;
            check.due("length", length, () -> x.whole(11));
            x.type(0);
        }
        check.due("full", 150, () -> x.whole(11));
        Check.outcome(() -> x.type(0));
        check.due("full", 150, () -> x.whole(11));
        x.clearCommands();
        check.due("empty", 0, () -> x.whole(11));
    }

    // ---- promise 19: worst cost and first question

    private static void questions() {
        nothingIsAsked();
        holeIsOneMoreAction();
        allAreAsked();
        nextQuestionDepends();
        leastOfAllPlans();
        firstQuestionIsTheLowest();
    }

    private static void nothingIsAsked() {
        check.about("whole: It ends as soon as all cases have the same action; NONE if none is asked");
        AskedRules x = Tables.with(2, 3);
        check.due("holes alone, cost", 0, () -> x.whole(7));
        check.due("holes alone", NONE, () -> x.whole(8));
        x.addRow(0x31, 4);
        x.addRow(0x73, 4);
        check.due("one action, cost", 0, () -> x.whole(7));
        check.due("one action", NONE, () -> x.whole(8));
        AskedRules none = new AskedRules();
        none.addRow(0, 4);
        check.due("without conditions, cost", 0, () -> none.whole(7));
        check.due("without conditions", NONE, () -> none.whole(8));
    }

    private static void holeIsOneMoreAction() {
        check.about("whole: that it is a hole (which counts as one more action, 10)");
        for (int action = 0; action <= 9; action++) {
            AskedRules x = Tables.with(2);
            x.addRow(2, action);
            check.due("cost", 1, () -> x.whole(7));
            check.due("question", 0, () -> x.whole(8));
        }
    }

    private static void allAreAsked() {
        check.about("whole: 7 worst cost, the greatest one");
        AskedRules x = new AskedRules();
        for (int i = 0; i < 5; i++) {
            x.addCondition(4, 9);
        }
        x.addRow(0x88888, 1);
        check.due("of one case among 1024", 45, () -> x.whole(7));
        check.due("first question", 0, () -> x.whole(8));
    }

    private static void nextQuestionDepends() {
        check.about("whole: which one is asked next may depend on the answers so far");
        AskedRules x = new AskedRules();
        x.addCondition(2, 1);
        x.addCondition(2, 7);
        x.addCondition(2, 8);
        x.addRow(0x311, 1);
        x.addRow(0x132, 1);
        check.due("1 after answer 0, 2 after answer 1", 9, () -> x.whole(7));
        check.due("first question", 0, () -> x.whole(8));
        check.due("after answer 0", 1, () -> x.ask(1));
        check.due("after answer 1", 2, () -> x.ask(2));
    }

    private static void leastOfAllPlans() {
        check.about("whole: The worst cost is the least one of all plans");
        AskedRules x = new AskedRules();
        x.addCondition(3, 9);
        x.addCondition(2, 1);
        x.addRow(0x13, 1);
        x.addRow(0x17, 2);
        x.addRow(0x27, 3);
        check.due("0 is asked for some alone, but costs as much", 10, () -> x.whole(7));
        check.due("both can begin", 0, () -> x.whole(8));
        AskedRules dear = new AskedRules();
        dear.addCondition(2, 9);
        dear.addCondition(2, 1);
        dear.addCondition(2, 1);
        dear.addRow(0x331, 1);
        check.due("the dear one alone", 9, () -> dear.whole(7));
        check.due("nothing in front of it", 0, () -> dear.whole(8));
        AskedRules split = new AskedRules();
        split.addCondition(2, 5);
        split.addCondition(2, 1);
        split.addCondition(2, 5);
        split.addRow(0x311, 1);
        split.addRow(0x123, 1);
        // 1 tells which of the dear ones decides; to begin with one of those may need the other, too
        check.due("one of the dear ones", 6, () -> split.whole(7));
        check.due("the cheap one in front", 1, () -> split.whole(8));
    }

    private static void firstQuestionIsTheLowest() {
        check.about("whole: The first question is the lowest condition with which such a plan can begin");
        AskedRules x = Tables.with(2, 2, 2);
        x.addRow(0x212, 1);
        check.due("any can begin", 0, () -> x.whole(8));
        x.setAnswers(0, 0, 3);
        check.due("1 or 2", 1, () -> x.whole(8));
        x.setAnswers(0, 1, 3);
        check.due("2 alone", 2, () -> x.whole(8));
        x.setAnswers(0, 2, 3);
        check.due("none", NONE, () -> x.whole(8));
        AskedRules y = new AskedRules();
        y.addCondition(2, 1);
        y.addCondition(2, 1);
        // to begin with 0 would cost 2, as 1 would be asked behind it
        y.addRow(0x13, 1);
        check.due("not one that costs more in all", 1, () -> y.whole(8));
    }

    // ---- promise 20

    private static void reason() {
        reasonOfNoRow();
        noNextOne();
        unlikeActionsAhead();
        unlikeSets();
        canBeMerged();
    }

    private static void reasonOfNoRow() {
        check.about("reason: IndexOutOfBoundsException if there is no such row");
        check.index("without rows", () -> new AskedRules().reason(0));
        AskedRules x = Tables.withRows(20);
        for (int row : new int[] {LEAST, -1, 20, 21, MOST}) {
            check.index("row " + row, () -> x.reason(row));
        }
        x.dropRow(2);
        check.index("that is gone", () -> x.reason(2));
    }

    private static void noNextOne() {
        check.about("reason: 1 there is no next one");
        check.due("the only one", 1, () -> Tables.withRows(1).reason(0));
        AskedRules x = Tables.withRows(20);
        check.due("the last of twenty", 1, () -> x.reason(19));
        check.due("the last but one", 2, () -> x.reason(18));
        x.dropRow(19);
        check.due("the last then", 1, () -> x.reason(18));
        x.moveUp(18);
        check.due("no more", 2, () -> x.reason(18));
        check.due("the one that came there", 1, () -> x.reason(17));
    }

    private static void unlikeActionsAhead() {
        check.about("reason: the first of these that applies: 2 their actions are unlike");
        AskedRules x = Tables.with(2, 2);
        x.addRow(0x11, 1);
        x.addRow(0x22, 2);
        x.addRow(0x22, 3);
        check.due("also their sets", 2, () -> x.reason(0));
        check.due("their actions alone", 2, () -> x.reason(1));
    }

    private static void unlikeSets() {
        check.about("reason: 3 their sets are unlike for two or more conditions");
        for (int unlike = 0; unlike <= 5; unlike++) {
            AskedRules x = Tables.with(2, 2, 2, 2, 2);
            x.addRow(0x11111, 1);
            x.addRow(0x11111 | 0x22222 & (1 << 4 * unlike) - 1, 1);
            int want = unlike >= 2 ? 3 : 0;
            check.due("unlike for " + unlike, want, () -> x.reason(0));
        }
    }

    private static void canBeMerged() {
        check.about("reason: 0 it can");
        AskedRules none = new AskedRules();
        none.addRow(0, 1);
        none.addRow(0, 1);
        check.due("without conditions", 0, () -> none.reason(0));
        for (int condition = 0; condition < 5; condition++) {
            AskedRules x = Tables.with(4, 4, 4, 4, 4);
            x.addRow(0x11111, 1);
            x.addRow(0x11111 ^ 15 << 4 * condition, 1);
            check.due("unlike for " + condition + " alone", 0, () -> x.reason(0));
            check.due("so merge() does it", 1, () -> x.merge(0));
        }
    }

    // ---- promises 21 and 22

    private static void ask() {
        knownIsNotNegative();
        knownAnswersThatThereAre();
        knownBitsBeyondTheConditions();
        nothingToAsk();
        lowestThatIsNotKnown();
        lowestThatCanBegin();
    }

    private static void bothRefuse(String call, int known, AskedRules x) {
        check.argument("ask of " + call, () -> x.ask(known));
        check.argument("costFrom of " + call, () -> x.costFrom(known));
    }

    private static void bothAnswer(String call, int question, int cost, int known, AskedRules x) {
        check.due("ask of " + call, question, () -> x.ask(known));
        check.due("costFrom of " + call, cost, () -> x.costFrom(known));
    }

    private static void knownIsNotNegative() {
        check.about("ask, costFrom: IllegalArgumentException if known is negative");
        AskedRules five = Tables.with(4, 4, 4, 4, 4);
        for (int known : new int[] {LEAST, LEAST | 1, LEAST | 0x11111, -1, -16}) {
            bothRefuse("" + known, known, new AskedRules());
            bothRefuse("" + known, known, five);
        }
    }

    private static void knownAnswersThatThereAre() {
        check.about("ask, costFrom: IllegalArgumentException if known has an answer that there is not");
        for (int answers = 2; answers <= 4; answers++) {
            for (int condition = 0; condition < 5; condition++) {
                AskedRules x = Tables.with(answers, answers, answers, answers, answers);
                for (int value = 0; value < 16; value++) {
                    int known = value << 4 * condition;
                    if (value <= answers) {
                        bothAnswer("" + known, NONE, 0, known, x);
                    } else {
                        bothRefuse("" + known, known, x);
                        bothRefuse("" + known + " and others", known | 0x11111 & ~(15 << 4 * condition), x);
                    }
                }
            }
        }
    }

    private static void knownBitsBeyondTheConditions() {
        check.about("ask, costFrom: IllegalArgumentException if known has a bit beyond the conditions");
        for (int conditions = 0; conditions <= 5; conditions++) {
            AskedRules x = new AskedRules();
            for (int i = 0; i < conditions; i++) {
                x.addCondition(4, 1);
            }
            for (int bit = 4 * conditions; bit < 31; bit++) {
                bothRefuse("bit " + bit + " of " + conditions, 1 << bit, x);
            }
            bothAnswer("nothing of " + conditions, NONE, 0, 0, x);
        }
    }

    private static void nothingToAsk() {
        check.about("ask: NONE if all of these cases have the same action; costFrom: 0 if nothing is to be asked");
        AskedRules none = new AskedRules();
        bothAnswer("a hole without conditions", NONE, 0, 0, none);
        none.addRow(0, 1);
        bothAnswer("a row without conditions", NONE, 0, 0, none);
        AskedRules x = Tables.with(2, 2, 2, 2, 2);
        x.addRow(0x11111, 1);
        bothAnswer("all known", NONE, 0, 0x11111, x);
        bothAnswer("all known of a hole", NONE, 0, 0x22222, x);
        bothAnswer("all but one known", 4, 1, 0x01111, x);
        bothAnswer("one known, holes alone", NONE, 0, 0x20000, x);
        bothAnswer("one known, not alone", 0, 4, 0x10000, x);
    }

    private static void lowestThatIsNotKnown() {
        check.about("ask: the lowest condition that is not known");
        AskedRules x = Tables.with(4, 4, 4, 4, 4);
        x.addRow(0x88888, 1);
        int known = 0;
        for (int condition = 0; condition < 5; condition++) {
            bothAnswer("the answers up to there", condition, 5 - condition, known, x);
            known |= 4 << 4 * condition;
        }
        bothAnswer("all", NONE, 0, known, x);
        bothAnswer("all but 0", 0, 1, 0x44440, x);
        bothAnswer("all but 0 and 2", 0, 2, 0x44040, x);
        bothAnswer("1 and 0", 2, 3, 0x00044, x);
    }

    private static void lowestThatCanBegin() {
        check.about("ask: with which a plan for the cases that fit them, with the least worst cost, can begin");
        AskedRules x = new AskedRules();
        x.addCondition(2, 3);
        x.addCondition(2, 4);
        x.addCondition(2, 5);
        x.addRow(0x331, 1);
        x.addRow(0x332, 2);
        bothAnswer("nothing", 0, 3, 0, x);
        bothAnswer("an answer to another", 0, 3, 0x020, x);
        x.setAnswers(0, 1, 1);
        x.setAnswers(1, 2, 1);
        // answer 0 to 0: 1 decides; answer 1 to 0: 2 decides
        bothAnswer("answer 0", 1, 4, 0x001, x);
        bothAnswer("answer 1", 2, 5, 0x002, x);
        bothAnswer("nothing", 0, 8, 0, x);
        bothAnswer("answer 0 to 1 and to 2", 0, 3, 0x110, x);
        bothAnswer("answer 1 to 1 and to 2", NONE, 0, 0x220, x);
        bothAnswer("answer 1 to 2", 0, 7, 0x200, x);
    }

    private static void costFrom() {
        check.about("costFrom: Returns the least worst cost from there on");
        AskedRules x = new AskedRules();
        for (int i = 0; i < 5; i++) {
            x.addCondition(2, 9);
        }
        x.addRow(0x11111, 1);
        check.due("the greatest one", 45, () -> x.costFrom(0));
        check.due("as the worst cost of the whole", 45, () -> x.whole(7));
        check.due("what is known costs nothing", 36, () -> x.costFrom(0x00100));
        check.due("the least one", 9, () -> x.costFrom(0x11011));
        x.setCost(2, 1);
        check.due("after setCost()", 1, () -> x.costFrom(0x11011));
    }

    // ---- promise 23

    private static void changedWithout() {
        changesOfNoRow();
        holeCountsAsAChange();
        changesOfARowThatIsNotNeeded();
        changesOfLikeActions();
        changesByThoseBehind();
    }

    private static void changesOfNoRow() {
        check.about("changedWithout: IndexOutOfBoundsException if there is no such row");
        check.index("without rows", () -> new AskedRules().changedWithout(0));
        AskedRules x = Tables.withRows(20);
        for (int row : new int[] {LEAST, -1, 20, 21, MOST}) {
            check.index("row " + row, () -> x.changedWithout(row));
        }
        x.dropRow(19);
        check.index("that is gone", () -> x.changedWithout(19));
    }

    private static void holeCountsAsAChange() {
        check.about("changedWithout: (a hole counts as an action)");
        AskedRules x = Tables.with(4, 4, 4, 4, 4);
        x.addRow(0xfffff, 9);
        check.due("all become holes", 1024, () -> x.changedWithout(0));
        AskedRules none = new AskedRules();
        none.addRow(0, 0);
        check.due("the only case becomes one", 1, () -> none.changedWithout(0));
    }

    private static void changesOfARowThatIsNotNeeded() {
        check.about("changedWithout: cases that would change their action: none if it is the row of none");
        AskedRules x = Tables.with(2);
        x.addRow(3, 1);
        x.addRow(1, 2);
        x.addRow(3, 3);
        check.due("the second", 0, () -> x.changedWithout(1));
        check.due("the third", 0, () -> x.changedWithout(2));
    }

    private static void changesOfLikeActions() {
        check.about("changedWithout: cases that would change their action: not those of the same one");
        AskedRules x = Tables.with(4);
        x.addRow(15, 1);
        x.addRow(3, 1);
        x.addRow(4, 2);
        check.due("two get another action, or none", 2, () -> x.changedWithout(0));
        x.addRow(12, 1);
        check.due("one gets another action", 1, () -> x.changedWithout(0));
        x.dropRow(2);
        check.due("none does", 0, () -> x.changedWithout(0));
    }

    private static void changesByThoseBehind() {
        check.about("changedWithout: the next row in the order that tells the case is its row then");
        AskedRules x = new AskedRules();
        x.addRow(0, 1);
        x.addRow(0, 1);
        x.addRow(0, 2);
        check.due("the next is like", 0, () -> x.changedWithout(0));
        x.moveUp(2);
        check.due("the next is unlike", 1, () -> x.changedWithout(0));
        check.due("it is the second", 0, () -> x.changedWithout(2));
    }

    // ---- promise 24

    private static void bestAction() {
        bestActionOfNoCase();
        bestActionOfNoHole();
        bestActionIsTheLowest();
        bestActionOfAll();
        bestActionWithTwentyRows();
    }

    private static void bestActionOfNoCase() {
        check.about("bestAction: IndexOutOfBoundsException if there is no such case");
        check.index("without conditions", () -> new AskedRules().bestAction(1));
        AskedRules x = Tables.with(4, 4, 4, 4, 4);
        x.addRow(0x11111, 3);
        for (int number : new int[] {LEAST, -1, 1024, 1025, MOST}) {
            check.index("case " + number, () -> x.bestAction(number));
        }
        check.due("the last one", 0, () -> x.bestAction(1023));
    }

    private static void bestActionOfNoHole() {
        check.about("bestAction: NONE if the case is no hole");
        AskedRules x = Tables.with(2);
        x.addRow(1, 0);
        check.due("told", NONE, () -> x.bestAction(0));
        check.due("a hole", 0, () -> x.bestAction(1));
        x.addRow(3, 5);
        check.due("told now", NONE, () -> x.bestAction(1));
    }

    private static void bestActionIsTheLowest() {
        check.about("bestAction: Returns the lowest such action");
        check.due("all are alike without conditions", 0, () -> new AskedRules().bestAction(0));
        AskedRules x = Tables.with(2, 2);
        check.due("all are alike among holes", 0, () -> x.bestAction(3));
        // whatever the hole gets, both conditions are to be asked
        x.addRow(0x11, 6);
        x.addRow(0x22, 6);
        check.due("none is better", 0, () -> x.bestAction(1));
    }

    private static void bestActionOfAll() {
        check.about("bestAction: the action that would be needed so that the worst cost would be the least, 0 to 9");
        for (int action = 0; action <= 9; action++) {
            int want = action;
            AskedRules x = Tables.with(4, 4, 4, 4, 4);
            x.addRow(0xffff7, want);
            x.addRow(0xfff7f, want);
            x.addRow(0xff7ff, want);
            x.addRow(0xf7fff, want);
            x.addRow(0x7ffff, want);
            check.due("the last case alone is a hole", want, () -> x.bestAction(1023));
            check.due("it stays a hole", 1, () -> x.whole(3));
            check.due("with its questions", 5, () -> x.whole(7));
            check.due("and with its action", 2, () -> x.whole(9));
        }
    }

    private static void bestActionWithTwentyRows() {
        check.about("bestAction: the row would tell this case alone (however many rows there are)");
        AskedRules x = Tables.with(3);
        for (int i = 0; i < 20; i++) {
            x.addRow(1, 8);
        }
        // another case stays a hole, so that the condition is to be asked in any case
        check.due("one of two holes", 0, () -> x.bestAction(1));
        x.setAnswers(0, 0, 3);
        check.due("the only hole", 8, () -> x.bestAction(2));
        check.state("though no row could be added", () -> x.addRow(4, 8));
    }
}
