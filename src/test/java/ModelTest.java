/** Long runs of calls, the same on the class and on the model, each answer and each state compared. */
public final class ModelTest {
    private static final Check check = new Check("ModelTest");

    private final Numbers numbers;
    private final int run;
    private final int mostConditions;
    private final AskedRules x = new AskedRules();
    private final Model model = new Model();
    private final StringBuilder story = new StringBuilder();
    private boolean apart;

    /** Numbers that look thrown, but are the same each time. */
    private static final class Numbers {
        private long seed;

        Numbers(long seed) {
            this.seed = seed * 0x9E3779B97F4A7C15L + 12345;
        }

        int below(int bound) {
            seed = seed * 6364136223846793005L + 1442695040888963407L;
            return (int) ((seed >>> 33) % bound);
        }
    }

    private ModelTest(int run, int mostConditions) {
        this.run = run;
        this.mostConditions = mostConditions;
        this.numbers = new Numbers(run);
    }

    public static void main(String[] args) {
        for (int run = 0; run < 1200; run++) {
            new ModelTest(run, run % 4).go(300, 1);
        }
        for (int run = 1200; run < 1240; run++) {
            new ModelTest(run, 4).go(120, 6);
        }
        for (int run = 1240; run < 1246; run++) {
            new ModelTest(run, 5).go(80, 20);
        }
        for (int run = 1300; run < 1500; run++) {
            new ModelTest(run, run % 6).text(40);
        }
        check.close();
    }

    // ---- one call, on both

    private void both(String call, Check.Call ours, Check.Call theirs) {
        if (apart) {
            return;
        }
        String got = Check.outcome(ours);
        String want = Check.outcome(theirs);
        story.append("\n    ").append(call).append(" = ").append(got);
        if (!got.equals(want)) {
            apart = true;
            check.report("run " + run + ": due is " + want + " at the end of" + story);
        }
    }

    private void compareStates() {
        both("digest()", () -> x.digest(), () -> model.digest());
    }

    private void go(int calls, int stateEach) {
        for (int i = 0; i < calls && !apart; i++) {
            if (numbers.below(3) > 0) {
                change();
            } else {
                look();
            }
            if (i % stateEach == 0) {
                compareStates();
            }
        }
        check.due("run " + run + " apart", 0, apart ? 1 : 0);
    }

    // ---- arguments: mostly right, sometimes beside

    private int odd(int usual) {
        int[] beside = {-1, 0, 1, 2, 3, 4, 5, 9, 10, 16, 128, 1 << 20, Integer.MAX_VALUE, Integer.MIN_VALUE};
        return numbers.below(40) == 0 ? beside[numbers.below(beside.length)] : usual;
    }

    private int someRow() {
        int rows = x.whole(2);
        return odd(rows > 0 ? x.rowAt(numbers.below(rows)) : 0);
    }

    private int someCondition() {
        int conditions = x.whole(0);
        return odd(conditions > 0 ? numbers.below(conditions) : 0);
    }

    private int someCase() {
        return odd(numbers.below(x.whole(1) + (numbers.below(20) == 0 ? 1 : 0)));
    }

    private int someSet(int condition) {
        int answers = condition >= 0 && condition < x.whole(0) ? x.condition(condition, 0) : 2;
        return odd(1 + numbers.below((1 << answers) - 1));
    }

    private int someSets() {
        int sets = 0;
        for (int c = x.whole(0) - 1; c >= 0; c--) {
            sets = sets << 4 | (numbers.below(4) == 0 ? (1 << x.condition(c, 0)) - 1 : someSet(c) & 15);
        }
        return odd(sets);
    }

    private int someKnown() {
        int known = 0;
        for (int c = x.whole(0) - 1; c >= 0; c--) {
            int more = numbers.below(60) == 0 ? 2 : 1;
            known = known << 4 | (numbers.below(2) == 0 ? 0 : numbers.below(x.condition(c, 0) + more));
        }
        return odd(known);
    }

    private int someAction() {
        return odd(numbers.below(4) == 0 ? numbers.below(10) : numbers.below(3));
    }

    // ---- calls

    private void change() {
        switch (numbers.below(22)) {
            case 0:
                addCondition();
                break;
            case 1: {
                int condition = someCondition();
                int cost = odd(1 + numbers.below(9));
                both("setCost(" + condition + ", " + cost + ")",
                        () -> x.setCost(condition, cost), () -> model.setCost(condition, cost));
                break;
            }
            case 2: case 3: case 4: case 5: case 6: case 7: case 8: {
                int sets = someSets();
                int action = someAction();
                both("addRow(" + sets + ", " + action + ")",
                        () -> x.addRow(sets, action), () -> model.addRow(sets, action));
                break;
            }
            case 9: case 10: {
                int row = someRow();
                int condition = someCondition();
                int set = someSet(condition);
                both("setAnswers(" + row + ", " + condition + ", " + set + ")",
                        () -> x.setAnswers(row, condition, set), () -> model.setAnswers(row, condition, set));
                break;
            }
            case 11: {
                int row = someRow();
                int action = someAction();
                both("setAction(" + row + ", " + action + ")",
                        () -> x.setAction(row, action), () -> model.setAction(row, action));
                break;
            }
            case 12: {
                int row = someRow();
                both("dropRow(" + row + ")", () -> x.dropRow(row), () -> model.dropRow(row));
                break;
            }
            case 13: case 14: {
                int row = someRow();
                both("moveUp(" + row + ")", () -> x.moveUp(row), () -> model.moveUp(row));
                break;
            }
            case 15: case 16: {
                int row = someRow();
                both("merge(" + row + ")", () -> x.merge(row), () -> model.merge(row));
                break;
            }
            case 17:
                both("mergeAll()", () -> x.mergeAll(), () -> model.mergeAll());
                break;
            case 18:
                both("prune()", () -> x.prune(), () -> model.prune());
                break;
            case 19: case 20:
                both("undo()", () -> x.undo(), () -> model.undo());
                break;
            default:
                runSomeText();
        }
    }

    private void addCondition() {
        int answers = odd(2 + numbers.below(3));
        int cost = odd(1 + numbers.below(9));
        if (x.whole(0) < mostConditions || numbers.below(10) == 0 && x.whole(0) == 5) {
            both("addCondition(" + answers + ", " + cost + ")",
                    () -> x.addCondition(answers, cost), () -> model.addCondition(answers, cost));
        }
    }

    private void look() {
        int row = someRow();
        int condition = someCondition();
        int number = someCase();
        int known = someKnown();
        int index = odd(numbers.below(25));
        switch (numbers.below(12)) {
            case 0: {
                int what = odd(numbers.below(3));
                both("condition(" + condition + ", " + what + ")",
                        () -> x.condition(condition, what), () -> model.condition(condition, what));
                break;
            }
            case 1: {
                int what = odd(numbers.below(6));
                both("row(" + row + ", " + what + ")", () -> x.row(row, what), () -> model.row(row, what));
                break;
            }
            case 2:
                both("answers(" + row + ", " + condition + ")",
                        () -> x.answers(row, condition), () -> model.answers(row, condition));
                break;
            case 3:
                both("rowAt(" + index + ")", () -> x.rowAt(index), () -> model.rowAt(index));
                break;
            case 4: {
                int what = odd(numbers.below(5));
                both("caseOf(" + number + ", " + what + ")",
                        () -> x.caseOf(number, what), () -> model.caseOf(number, what));
                break;
            }
            case 5:
                both("answerOf(" + number + ", " + condition + ")",
                        () -> x.answerOf(number, condition), () -> model.answerOf(number, condition));
                break;
            case 6:
                both("hole(" + index + ")", () -> x.hole(index), () -> model.hole(index));
                break;
            case 7:
                both("reason(" + row + ")", () -> x.reason(row), () -> model.reason(row));
                break;
            case 8:
                both("ask(" + known + ")", () -> x.ask(known), () -> model.ask(known));
                break;
            case 9:
                both("costFrom(" + known + ")", () -> x.costFrom(known), () -> model.costFrom(known));
                break;
            case 10:
                both("changedWithout(" + row + ")", () -> x.changedWithout(row), () -> model.changedWithout(row));
                break;
            default:
                int hole = numbers.below(2) == 0 ? number : x.hole(numbers.below(1 + x.whole(3)));
                both("bestAction(" + hole + ")", () -> x.bestAction(hole), () -> model.bestAction(hole));
        }
    }

    // ---- texts of commands

    /** Conditions and rows first, then one text after the other. */
    private void text(int texts) {
        for (int c = 0; c < mostConditions && !apart; c++) {
            addCondition();
        }
        for (int i = 0; i < texts && !apart; i++) {
            runSomeText();
            both("whole(2)", () -> x.whole(2), () -> model.whole(2));
            both("rowAt(0)", () -> x.rowAt(0), () -> model.rowAt(0));
        }
        compareStates();
        check.due("run " + run + " apart", 0, apart ? 1 : 0);
    }

    private void runSomeText() {
        if (numbers.below(8) > 0) {
            both("clearCommands()", () -> x.clearCommands(), () -> model.clearCommands());
        }
        String text = someText();
        for (int i = 0; i < text.length(); i++) {
            char value = text.charAt(i);
            both("type(" + (int) value + ")", () -> x.type(value), () -> model.type(value));
        }
        both("runCommands() of '" + text + "'", () -> x.runCommands(), () -> model.runCommands());
    }

    private String someText() {
        StringBuilder text = new StringBuilder();
        int commands = numbers.below(5);
        for (int i = 0; i < commands; i++) {
            text.append(numbers.below(3) == 0 ? " " : "").append(someCommand());
        }
        text.append(numbers.below(5) == 0 ? "  " : "");
        int harm = numbers.below(4);
        for (int i = 0; i < harm - 1 && text.length() > 0; i++) {
            harm(text);
        }
        return text.toString();
    }

    private String someCommand() {
        switch (numbers.below(6)) {
            case 0:
                return "drop " + someNumber() + ";";
            case 1:
                return "up " + someNumber() + ";";
            case 2:
                return "merge;";
            default:
                StringBuilder sets = new StringBuilder("if ");
                for (int c = 0; c < x.whole(0); c++) {
                    sets.append(c > 0 ? "," : "").append(someWrittenSet(c));
                }
                return sets.append('>').append(numbers.below(3)).append(';').toString();
        }
    }

    private String someNumber() {
        int rows = x.whole(2);
        int row = rows > 0 && numbers.below(8) > 0 ? x.rowAt(numbers.below(rows)) : x.whole(10);
        return numbers.below(4) == 0 && row < 10 ? "0" + row : "" + row;
    }

    private String someWrittenSet(int condition) {
        if (numbers.below(3) == 0) {
            return "-";
        }
        int mask = 1 + numbers.below((1 << x.condition(condition, 0)) - 1);
        StringBuilder set = new StringBuilder();
        for (int a = 0; a < 4; a++) {
            set.append((mask & 1 << a) != 0 ? "" + a : "");
        }
        return set.toString();
    }

    private void harm(StringBuilder text) {
        String signs = "if drop up merge;;,,>->0123456789 zaA\n";
        char sign = signs.charAt(numbers.below(signs.length()));
        int place = numbers.below(text.length());
        switch (numbers.below(4)) {
            case 0:
                text.setCharAt(place, sign);
                break;
            case 1:
                text.insert(place, sign);
                break;
            case 2:
                text.deleteCharAt(place);
                break;
            default:
                text.setLength(place);
        }
    }
}
