/**
 * Tables of decisions: conditions, rows in an order, the cases that they tell, the plans of
 * questions that decide a case, texts of commands and undo.
 *
 * All room is made in the constructor and used again: no later call makes an object.
 */
public final class AskedRules {
    public static final int NONE = -1;

    private static final int MOST_CONDITIONS = 5;
    private static final int MOST_ANSWERS = 4;
    private static final int MOST_COST = 9;
    private static final int MOST_ROWS = 20;
    private static final int MOST_ACTION = 9;
    private static final int MOST_CASES = 1024;
    private static final int MOST_BYTES = 150;
    private static final int MOST_SAVED = 4;

    /** Conditions lie four bits apart, in sets of rows as well as in known answers. */
    private static final int BITS = 4;
    private static final int LOW_BITS = 15;

    /** The action of a hole. */
    private static final int HOLE = 10;
    /** Stands for the action of several cases that have no common one. */
    private static final int MIXED = 11;
    /** More than the costs of all conditions together. */
    private static final int ABOVE_ALL_COSTS = 100;

    private static final int CONDITION_VALUES = 3;
    private static final int ROW_VALUES = 6;
    private static final int CASE_VALUES = 5;
    private static final int WHOLE_VALUES = 12;

    private static final long DIGEST_START = 43870L;

    private final Table table;
    private final Cases cases;
    private final Plans plans;
    private final History history;
    private final Script script;
    private boolean casesStale;
    private boolean plansStale;

    public AskedRules() {
        table = new Table();
        cases = new Cases(table);
        plans = new Plans(table, cases);
        history = new History();
        script = new Script(table);
        casesStale = true;
        plansStale = true;
    }

    // ---- conditions and rows

    public int addCondition(int answers, int cost) throws IllegalArgumentException, IllegalStateException {
        if (answers < 2 || answers > MOST_ANSWERS || !isCost(cost)) {
            throw new IllegalArgumentException("answers or cost out of range");
        }
        if (table.conditionCount >= MOST_CONDITIONS) {
            throw new IllegalStateException("no room for a condition");
        }
        saveForChange();
        return table.appendCondition(answers, cost);
    }

    public int setCost(int condition, int cost) throws IndexOutOfBoundsException, IllegalArgumentException {
        if (!isCondition(condition)) {
            throw new IndexOutOfBoundsException("no such condition");
        }
        if (!isCost(cost)) {
            throw new IllegalArgumentException("cost out of range");
        }
        saveForChange();
        int previous = table.cost[condition];
        table.cost[condition] = cost;
        return previous;
    }

    public int addRow(int sets, int action) throws IllegalArgumentException, IllegalStateException {
        if (!isAction(action) || !table.areSets(sets)) {
            throw new IllegalArgumentException("no such sets or action");
        }
        if (table.rowCount >= MOST_ROWS) {
            throw new IllegalStateException("no room for a row");
        }
        saveForChange();
        return table.appendRow(sets, action);
    }

    public int setAnswers(int row, int condition, int set) throws IndexOutOfBoundsException, IllegalArgumentException {
        int place = table.placeOf(row);
        if (place < 0 || !isCondition(condition)) {
            throw new IndexOutOfBoundsException("no such row or condition");
        }
        if (!table.isSet(condition, set)) {
            throw new IllegalArgumentException("no such set of answers");
        }
        saveForChange();
        return table.replaceSet(place, condition, set);
    }

    public int setAction(int row, int action) throws IndexOutOfBoundsException, IllegalArgumentException {
        int place = table.placeOf(row);
        if (place < 0) {
            throw new IndexOutOfBoundsException("no such row");
        }
        if (!isAction(action)) {
            throw new IllegalArgumentException("action out of range");
        }
        saveForChange();
        int previous = table.action[place];
        table.action[place] = action;
        return previous;
    }

    public int dropRow(int row) throws IndexOutOfBoundsException {
        int place = table.placeOf(row);
        if (place < 0) {
            throw new IndexOutOfBoundsException("no such row");
        }
        saveForChange();
        table.removeAt(place);
        return place;
    }

    public int moveUp(int row) throws IndexOutOfBoundsException, IllegalStateException {
        int place = table.placeOf(row);
        if (place < 0) {
            throw new IndexOutOfBoundsException("no such row");
        }
        if (place == 0) {
            throw new IllegalStateException("the row is the first one");
        }
        saveForChange();
        table.liftAt(place);
        return place - 1;
    }

    public int merge(int row) throws IndexOutOfBoundsException, IllegalStateException {
        int place = table.placeOf(row);
        if (place < 0) {
            throw new IndexOutOfBoundsException("no such row");
        }
        if (table.whyApart(place) != 0) {
            throw new IllegalStateException("the rows cannot be merged");
        }
        saveForChange();
        return table.mergeAt(place);
    }

    public int mergeAll() {
        saveForChange();
        return table.mergeWhilePossible();
    }

    public int prune() {
        freshCases();
        saveForChange();
        int removed = 0;
        // from the end on, so that the places still to be looked at stay as they were counted
        for (int place = table.rowCount - 1; place >= 0; place--) {
            if (cases.owned[place] == 0) {
                table.removeAt(place);
                removed++;
            }
        }
        return removed;
    }

    // ---- values

    public int condition(int condition, int what) throws IndexOutOfBoundsException, IllegalArgumentException {
        if (!isCondition(condition)) {
            throw new IndexOutOfBoundsException("no such condition");
        }
        if (what < 0 || what >= CONDITION_VALUES) {
            throw new IllegalArgumentException("no such value");
        }
        return conditionValue(condition, what);
    }

    public int row(int row, int what) throws IndexOutOfBoundsException, IllegalArgumentException {
        int place = table.placeOf(row);
        if (place < 0) {
            throw new IndexOutOfBoundsException("no such row");
        }
        if (what < 0 || what >= ROW_VALUES) {
            throw new IllegalArgumentException("no such value");
        }
        return rowValue(place, what);
    }

    public int answers(int row, int condition) throws IndexOutOfBoundsException {
        int place = table.placeOf(row);
        if (place < 0 || !isCondition(condition)) {
            throw new IndexOutOfBoundsException("no such row or condition");
        }
        return table.setAt(place, condition);
    }

    public int rowAt(int place) throws IllegalArgumentException {
        if (place < 0) {
            throw new IllegalArgumentException("place is negative");
        }
        return place < table.rowCount ? table.number[place] : NONE;
    }

    public int caseOf(int number, int what) throws IndexOutOfBoundsException, IllegalArgumentException {
        freshCases();
        if (!isCase(number)) {
            throw new IndexOutOfBoundsException("no such case");
        }
        if (what < 0 || what >= CASE_VALUES) {
            throw new IllegalArgumentException("no such value");
        }
        return caseValue(number, what);
    }

    public int answerOf(int number, int condition) throws IndexOutOfBoundsException {
        freshCases();
        if (!isCase(number) || !isCondition(condition)) {
            throw new IndexOutOfBoundsException("no such case or condition");
        }
        return cases.answer(number, condition);
    }

    public int hole(int index) throws IllegalArgumentException {
        if (index < 0) {
            throw new IllegalArgumentException("index is negative");
        }
        freshCases();
        return cases.holeAt(index);
    }

    public int whole(int what) throws IllegalArgumentException {
        if (what < 0 || what >= WHOLE_VALUES) {
            throw new IllegalArgumentException("no such value");
        }
        return wholeValue(what);
    }

    // ---- what if, which changes nothing

    public int reason(int row) throws IndexOutOfBoundsException {
        int place = table.placeOf(row);
        if (place < 0) {
            throw new IndexOutOfBoundsException("no such row");
        }
        return table.whyApart(place);
    }

    public int ask(int known) throws IllegalArgumentException {
        int state = plans.stateOf(known);
        if (state < 0) {
            throw new IllegalArgumentException("no such answers");
        }
        freshPlans();
        return plans.question(state);
    }

    public int costFrom(int known) throws IllegalArgumentException {
        int state = plans.stateOf(known);
        if (state < 0) {
            throw new IllegalArgumentException("no such answers");
        }
        freshPlans();
        return plans.worst[state];
    }

    public int changedWithout(int row) throws IndexOutOfBoundsException {
        int place = table.placeOf(row);
        if (place < 0) {
            throw new IndexOutOfBoundsException("no such row");
        }
        freshCases();
        return cases.changesWithout(place);
    }

    public int bestAction(int number) throws IndexOutOfBoundsException {
        freshCases();
        if (!isCase(number)) {
            throw new IndexOutOfBoundsException("no such case");
        }
        if (cases.told[number] > 0) {
            return NONE;
        }
        freshPlans();
        return plans.bestActionFor(number);
    }

    // ---- command text, undo and checksum

    public int type(int value) throws IllegalArgumentException, IllegalStateException {
        if (value < 0 || value > 127) {
            throw new IllegalArgumentException("value out of range");
        }
        if (script.length >= MOST_BYTES) {
            throw new IllegalStateException("the text is full");
        }
        script.append(value);
        return script.length;
    }

    public int clearCommands() {
        int previous = script.length;
        script.length = 0;
        return previous;
    }

    public int runCommands() {
        int fault = script.findFault();
        if (fault != NONE) {
            return -10 - fault;
        }
        saveForChange();
        int done = 0;
        script.rewind();
        // a command has at least one byte, so that there are no more commands than bytes
        for (int turn = 0; turn < MOST_BYTES; turn++) {
            if (script.atEnd() || !script.readCommand() || !carryOut()) {
                break;
            }
            done++;
            script.skipSpaces();
        }
        return done;
    }

    public int undo() throws IllegalStateException {
        if (history.count == 0) {
            throw new IllegalStateException("nothing to undo");
        }
        history.restore(table);
        casesStale = true;
        plansStale = true;
        return history.count;
    }

    public long digest() {
        freshCases();
        long h = 31 * DIGEST_START + history.count;
        for (int what = 0; what < WHOLE_VALUES; what++) {
            h = 31 * h + wholeValue(what);
        }
        for (int condition = 0; condition < table.conditionCount; condition++) {
            for (int what = 0; what < CONDITION_VALUES; what++) {
                h = 31 * h + conditionValue(condition, what);
            }
        }
        for (int place = 0; place < table.rowCount; place++) {
            h = 31 * h + table.number[place];
            for (int what = 0; what < ROW_VALUES; what++) {
                h = 31 * h + rowValue(place, what);
            }
        }
        for (int number = 0; number < cases.count; number++) {
            for (int what = 1; what <= 3; what++) {
                h = 31 * h + caseValue(number, what);
            }
        }
        return h;
    }

    // ---- what the calls above have in common

    private static boolean isCost(int cost) {
        return cost >= 1 && cost <= MOST_COST;
    }

    private static boolean isAction(int action) {
        return action >= 0 && action <= MOST_ACTION;
    }

    private boolean isCondition(int condition) {
        return condition >= 0 && condition < table.conditionCount;
    }

    /** Wants fresh cases, for their number. */
    private boolean isCase(int number) {
        return number >= 0 && number < cases.count;
    }

    private void saveForChange() {
        history.save(table);
        casesStale = true;
        plansStale = true;
    }

    private void freshCases() {
        if (casesStale) {
            cases.refresh();
            casesStale = false;
        }
    }

    private void freshPlans() {
        freshCases();
        if (plansStale) {
            plans.refresh();
            plansStale = false;
        }
    }

    /** Does the command that was read last; answers whether it would not throw. */
    private boolean carryOut() {
        if (script.kind == Script.MERGE) {
            table.mergeWhilePossible();
            return true;
        }
        if (script.kind == Script.IF) {
            if (table.rowCount >= MOST_ROWS) {
                return false;
            }
            table.appendRow(script.sets, script.action);
            return true;
        }
        int place = table.placeOf(script.row);
        if (place < 0) {
            return false;
        }
        if (script.kind == Script.DROP) {
            table.removeAt(place);
            return true;
        }
        if (place == 0) {
            return false;
        }
        table.liftAt(place);
        return true;
    }

    private int conditionValue(int condition, int what) {
        switch (what) {
            case 0:
                return table.answerCount[condition];
            case 1:
                return table.cost[condition];
            default:
                freshCases();
                return cases.matters(condition) ? 1 : 0;
        }
    }

    private int rowValue(int place, int what) {
        switch (what) {
            case 0:
                return place;
            case 1:
                return table.action[place];
            case 2:
                return table.casesToldAt(place);
            case 3:
                freshCases();
                return cases.owned[place];
            case 4:
                freshCases();
                return cases.owned[place] > 0 ? 1 : 0;
            default:
                return table.sets[place];
        }
    }

    /** Wants fresh cases. */
    private int caseValue(int number, int what) {
        switch (what) {
            case 0:
                return numberAt(cases.first[number]);
            case 1:
                return cases.action[number];
            case 2:
                return cases.told[number];
            case 3:
                return cases.conflict[number] ? 1 : 0;
            default:
                return numberAt(cases.second[number]);
        }
    }

    private int numberAt(int place) {
        return place >= 0 && place < table.rowCount ? table.number[place] : NONE;
    }

    private int wholeValue(int what) {
        freshCases();
        switch (what) {
            case 0:
                return table.conditionCount;
            case 1:
                return cases.count;
            case 2:
                return table.rowCount;
            case 3:
                return cases.holes;
            case 4:
                return cases.overlaps;
            case 5:
                return cases.conflicts;
            case 6:
                return cases.neededRows();
            case 7:
                freshPlans();
                return plans.worst[Plans.NOTHING_KNOWN];
            case 8:
                freshPlans();
                return plans.question(Plans.NOTHING_KNOWN);
            case 9:
                return cases.unlikeActions();
            case 10:
                return table.added;
            default:
                return script.length;
        }
    }

    /** What undo() brings back: the conditions, and the rows by their places in the order. */
    private static final class Table {
        int conditionCount;
        final int[] answerCount = new int[MOST_CONDITIONS];
        final int[] cost = new int[MOST_CONDITIONS];
        int added;
        int rowCount;
        final int[] number = new int[MOST_ROWS];
        final int[] sets = new int[MOST_ROWS];
        final int[] action = new int[MOST_ROWS];

        void copyFrom(Table other) {
            conditionCount = other.conditionCount;
            added = other.added;
            rowCount = other.rowCount;
            System.arraycopy(other.answerCount, 0, answerCount, 0, MOST_CONDITIONS);
            System.arraycopy(other.cost, 0, cost, 0, MOST_CONDITIONS);
            System.arraycopy(other.number, 0, number, 0, MOST_ROWS);
            System.arraycopy(other.sets, 0, sets, 0, MOST_ROWS);
            System.arraycopy(other.action, 0, action, 0, MOST_ROWS);
        }

        int fullSet(int condition) {
            return (1 << answerCount[condition]) - 1;
        }

        boolean isSet(int condition, int set) {
            return set > 0 && set <= fullSet(condition);
        }

        boolean areSets(int packed) {
            if (packed < 0 || packed >>> (BITS * conditionCount) != 0) {
                return false;
            }
            for (int condition = 0; condition < conditionCount; condition++) {
                if (!isSet(condition, packed >> (BITS * condition) & LOW_BITS)) {
                    return false;
                }
            }
            return true;
        }

        int placeOf(int row) {
            for (int place = 0; place < rowCount; place++) {
                if (number[place] == row) {
                    return place;
                }
            }
            return NONE;
        }

        int setAt(int place, int condition) {
            return sets[place] >> (BITS * condition) & LOW_BITS;
        }

        int replaceSet(int place, int condition, int set) {
            int previous = setAt(place, condition);
            int shift = BITS * condition;
            sets[place] = sets[place] & ~(LOW_BITS << shift) | set << shift;
            return previous;
        }

        /** Wants room for one more condition. */
        int appendCondition(int answers, int itsCost) {
            int condition = conditionCount;
            answerCount[condition] = answers;
            cost[condition] = itsCost;
            conditionCount++;
            for (int place = 0; place < rowCount; place++) {
                sets[place] |= fullSet(condition) << (BITS * condition);
            }
            return condition;
        }

        /** Wants room for one more row. */
        int appendRow(int itsSets, int itsAction) {
            int row = added;
            number[rowCount] = row;
            sets[rowCount] = itsSets;
            action[rowCount] = itsAction;
            rowCount++;
            added++;
            return row;
        }

        void removeAt(int place) {
            for (int next = place + 1; next < rowCount; next++) {
                copyRow(next, next - 1);
            }
            rowCount--;
        }

        private void copyRow(int from, int to) {
            number[to] = number[from];
            sets[to] = sets[from];
            action[to] = action[from];
        }

        /** Wants a place that is not the first one. */
        void liftAt(int place) {
            int liftedNumber = number[place];
            int liftedSets = sets[place];
            int liftedAction = action[place];
            copyRow(place - 1, place);
            number[place - 1] = liftedNumber;
            sets[place - 1] = liftedSets;
            action[place - 1] = liftedAction;
        }

        /** The reason why the row at a place cannot be merged with the next one, or 0. */
        int whyApart(int place) {
            if (place + 1 >= rowCount) {
                return 1;
            }
            if (action[place] != action[place + 1]) {
                return 2;
            }
            int unlike = 0;
            for (int condition = 0; condition < conditionCount; condition++) {
                if (setAt(place, condition) != setAt(place + 1, condition)) {
                    unlike++;
                }
            }
            return unlike >= 2 ? 3 : 0;
        }

        /** Wants two rows that can be merged; answers the number of the one that is gone. */
        int mergeAt(int place) {
            int gone = number[place + 1];
            // at most one condition has unlike sets, so that the union of all is that of this one
            sets[place] |= sets[place + 1];
            removeAt(place + 1);
            return gone;
        }

        int mergeWhilePossible() {
            int gone = 0;
            for (int turn = 0; turn < MOST_ROWS; turn++) {
                int place = firstPairToMerge();
                if (place < 0) {
                    break;
                }
                mergeAt(place);
                gone++;
            }
            return gone;
        }

        private int firstPairToMerge() {
            for (int place = 0; place < rowCount; place++) {
                if (whyApart(place) == 0) {
                    return place;
                }
            }
            return NONE;
        }

        int casesToldAt(int place) {
            int product = 1;
            for (int condition = 0; condition < conditionCount; condition++) {
                product *= Integer.bitCount(setAt(place, condition));
            }
            return product;
        }
    }

    /** What the rows of a table say of each case. */
    private static final class Cases {
        private final Table table;
        int count;
        /** For each condition, by how much the number of a case grows with its answer. */
        final int[] stride = new int[MOST_CONDITIONS];
        /** For each case, its answers as sets of one answer each. */
        private final int[] bits = new int[MOST_CASES];
        /** For each case, the places of the first two rows that tell it. */
        final int[] first = new int[MOST_CASES];
        final int[] second = new int[MOST_CASES];
        final int[] told = new int[MOST_CASES];
        final int[] action = new int[MOST_CASES];
        final boolean[] conflict = new boolean[MOST_CASES];
        /** For each place, the number of cases whose row stands there. */
        final int[] owned = new int[MOST_ROWS];
        int holes;
        int overlaps;
        int conflicts;

        Cases(Table itsTable) {
            table = itsTable;
        }

        void refresh() {
            layOut();
            holes = 0;
            overlaps = 0;
            conflicts = 0;
            for (int place = 0; place < MOST_ROWS; place++) {
                owned[place] = 0;
            }
            for (int number = 0; number < count; number++) {
                judge(number);
                tally(number);
            }
        }

        private void layOut() {
            bits[0] = 0;
            count = 1;
            for (int condition = 0; condition < table.conditionCount; condition++) {
                stride[condition] = count;
                // answer 0 comes last, as its cases are the ones that the others are made from
                for (int answer = table.answerCount[condition] - 1; answer >= 0; answer--) {
                    int bit = 1 << (BITS * condition + answer);
                    for (int number = 0; number < count; number++) {
                        bits[answer * count + number] = bits[number] | bit;
                    }
                }
                count *= table.answerCount[condition];
            }
        }

        private void judge(int number) {
            int wanted = bits[number];
            int tellers = 0;
            first[number] = NONE;
            second[number] = NONE;
            action[number] = HOLE;
            conflict[number] = false;
            for (int place = 0; place < table.rowCount; place++) {
                if ((table.sets[place] & wanted) != wanted) {
                    continue;
                }
                if (tellers == 0) {
                    first[number] = place;
                    action[number] = table.action[place];
                } else if (table.action[place] != action[number]) {
                    conflict[number] = true;
                }
                if (tellers == 1) {
                    second[number] = place;
                }
                tellers++;
            }
            told[number] = tellers;
        }

        private void tally(int number) {
            int place = first[number];
            if (place < 0) {
                holes++;
            } else {
                owned[place]++;
            }
            if (told[number] >= 2) {
                overlaps++;
            }
            if (conflict[number]) {
                conflicts++;
            }
        }

        int answer(int number, int condition) {
            int set = bits[number] >> (BITS * condition) & LOW_BITS;
            for (int answer = 0; answer < MOST_ANSWERS; answer++) {
                if ((set >> answer & 1) == 1) {
                    return answer;
                }
            }
            return 0;
        }

        int holeAt(int index) {
            int seen = 0;
            for (int number = 0; number < count; number++) {
                if (told[number] == 0) {
                    if (seen == index) {
                        return number;
                    }
                    seen++;
                }
            }
            return NONE;
        }

        int neededRows() {
            int needed = 0;
            for (int place = 0; place < table.rowCount; place++) {
                if (owned[place] > 0) {
                    needed++;
                }
            }
            return needed;
        }

        int unlikeActions() {
            int seen = 0;
            for (int number = 0; number < count; number++) {
                seen |= 1 << action[number];
            }
            return Integer.bitCount(seen);
        }

        boolean matters(int condition) {
            int step = stride[condition];
            int last = 1 << (BITS * condition + table.answerCount[condition] - 1);
            // unlike actions somewhere along the answers show between two answers side by side
            for (int number = 0; number + step < count; number++) {
                if ((bits[number] & last) == 0 && action[number] != action[number + step]) {
                    return true;
                }
            }
            return false;
        }

        int changesWithout(int place) {
            int changes = 0;
            for (int number = 0; number < count; number++) {
                if (first[number] == place) {
                    int next = second[number];
                    int then = next < 0 ? HOLE : table.action[next];
                    if (then != action[number]) {
                        changes++;
                    }
                }
            }
            return changes;
        }
    }

    /**
     * The least worst costs for all that can be known. A state of knowledge is a number with one
     * digit of base 5 for each condition: 0 not known, otherwise the answer plus 1.
     */
    private static final class Plans {
        static final int NOTHING_KNOWN = 0;
        private static final int BASE = 5;
        private static final int STATES = 3125;
        private static final int[] POWER = {1, 5, 25, 125, 625, 3125};

        private final Table table;
        private final Cases cases;
        /** For each state, the action of all cases that fit it, or MIXED. */
        private final int[] common = new int[STATES];
        final int[] worst = new int[STATES];
        /** The digits of the state that is looked at. */
        private final int[] digit = new int[MOST_CONDITIONS];

        Plans(Table itsTable, Cases itsCases) {
            table = itsTable;
            cases = itsCases;
        }

        /** The state for known answers as ask() gets them, or NONE if they are wrong. */
        int stateOf(int known) {
            if (known < 0 || known >>> (BITS * table.conditionCount) != 0) {
                return NONE;
            }
            int state = 0;
            for (int condition = 0; condition < table.conditionCount; condition++) {
                int value = known >> (BITS * condition) & LOW_BITS;
                if (value > table.answerCount[condition]) {
                    return NONE;
                }
                state += value * POWER[condition];
            }
            return state;
        }

        /** Goes downwards, as what follows a question are states with greater numbers. */
        void refresh() {
            for (int state = POWER[table.conditionCount] - 1; state >= 0; state--) {
                if (readDigits(state)) {
                    weigh(state);
                }
            }
        }

        /** Answers whether the state can be: whether each digit is an answer of its condition. */
        private boolean readDigits(int state) {
            int rest = state;
            for (int condition = 0; condition < table.conditionCount; condition++) {
                int value = rest % BASE;
                if (value > table.answerCount[condition]) {
                    return false;
                }
                digit[condition] = value;
                rest = rest / BASE;
            }
            return true;
        }

        /** Wants the digits of the state, and all states that may follow it weighed. */
        private void weigh(int state) {
            int open = firstOpen();
            if (open < 0) {
                common[state] = cases.action[caseOfDigits()];
            } else {
                common[state] = commonAfter(state, open);
            }
            worst[state] = common[state] == MIXED ? leastWorst(state) : 0;
        }

        private int firstOpen() {
            for (int condition = 0; condition < table.conditionCount; condition++) {
                if (digit[condition] == 0) {
                    return condition;
                }
            }
            return NONE;
        }

        private int caseOfDigits() {
            int number = 0;
            for (int condition = 0; condition < table.conditionCount; condition++) {
                number += (digit[condition] - 1) * cases.stride[condition];
            }
            return number;
        }

        private int commonAfter(int state, int condition) {
            int action = common[state + POWER[condition]];
            for (int answer = 2; answer <= table.answerCount[condition]; answer++) {
                if (common[state + answer * POWER[condition]] != action) {
                    return MIXED;
                }
            }
            return action;
        }

        private int leastWorst(int state) {
            int least = ABOVE_ALL_COSTS;
            for (int condition = 0; condition < table.conditionCount; condition++) {
                if (digit[condition] == 0) {
                    int then = worstAsking(state, condition);
                    least = then < least ? then : least;
                }
            }
            return least;
        }

        /** The least worst cost of the plans that begin with a condition that is not known. */
        private int worstAsking(int state, int condition) {
            int most = 0;
            for (int answer = 1; answer <= table.answerCount[condition]; answer++) {
                int then = worst[state + answer * POWER[condition]];
                most = then > most ? then : most;
            }
            return table.cost[condition] + most;
        }

        int question(int state) {
            if (common[state] != MIXED || !readDigits(state)) {
                return NONE;
            }
            for (int condition = 0; condition < table.conditionCount; condition++) {
                if (digit[condition] == 0 && worstAsking(state, condition) == worst[state]) {
                    return condition;
                }
            }
            return NONE;
        }

        int bestActionFor(int number) {
            int best = 0;
            int least = ABOVE_ALL_COSTS;
            for (int action = 0; action <= MOST_ACTION; action++) {
                int then = worstWith(number, action);
                if (then < least) {
                    least = then;
                    best = action;
                }
            }
            worstWith(number, HOLE); // puts the plans back to what they were
            return best;
        }

        /** The worst cost if a case had an action; weighs anew just the states that it fits. */
        private int worstWith(int number, int action) {
            int all = (1 << table.conditionCount) - 1;
            common[stateKnowing(number, all)] = action;
            // downwards, as what follows a question has one condition more that is known
            for (int asked = all - 1; asked >= 0; asked--) {
                int state = stateKnowing(number, asked);
                if (readDigits(state)) {
                    weigh(state);
                }
            }
            return worst[NOTHING_KNOWN];
        }

        /** The state when, of the answers of a case, those to some conditions are known. */
        private int stateKnowing(int number, int asked) {
            int state = 0;
            for (int condition = 0; condition < table.conditionCount; condition++) {
                if ((asked >> condition & 1) == 1) {
                    state += (cases.answer(number, condition) + 1) * POWER[condition];
                }
            }
            return state;
        }
    }

    /** The undo stack, whose oldest state stands first. */
    private static final class History {
        private final Table[] saved = new Table[MOST_SAVED];
        int count;

        History() {
            for (int i = 0; i < MOST_SAVED; i++) {
                saved[i] = new Table();
            }
        }

        void save(Table now) {
            if (count >= MOST_SAVED) {
                forgetOldest();
            }
            Table slot = saved[count];
            if (slot != null) {
                slot.copyFrom(now);
                count++;
            }
        }

        /** Keeps the table that is free by it behind the others, to be used again. */
        private void forgetOldest() {
            Table oldest = saved[0];
            for (int i = 1; i < MOST_SAVED; i++) {
                saved[i - 1] = saved[i];
            }
            saved[MOST_SAVED - 1] = oldest;
            count = MOST_SAVED - 1;
        }

        /** Wants at least one saved state. */
        void restore(Table now) {
            count--;
            Table slot = saved[count];
            if (slot != null) {
                now.copyFrom(slot);
            }
        }
    }

    /** The command text, and the command that was read from it last. */
    private static final class Script {
        static final int IF = 0;
        static final int DROP = 1;
        static final int UP = 2;
        static final int MERGE = 3;

        private final Table table;
        private final byte[] text = new byte[MOST_BYTES];
        int length;
        /** Where reading goes on, or, when a command could not be read, its fault. */
        private int position;
        int kind;
        int row;
        int sets;
        int action;

        Script(Table itsTable) {
            table = itsTable;
        }

        /** Wants room for one more byte. */
        void append(int value) {
            text[length] = (byte) value;
            length++;
        }

        int findFault() {
            rewind();
            // a command has at least one byte, so that there are no more commands than bytes
            for (int turn = 0; turn < MOST_BYTES && !atEnd(); turn++) {
                if (!readCommand()) {
                    return position;
                }
                skipSpaces();
            }
            return NONE;
        }

        void rewind() {
            position = 0;
            skipSpaces();
        }

        boolean atEnd() {
            return position >= length;
        }

        void skipSpaces() {
            for (int turn = 0; turn < MOST_BYTES && here() == ' '; turn++) {
                position++;
            }
        }

        /** The byte at the position, or NONE behind the end. */
        private int here() {
            return position >= 0 && position < length ? text[position] : NONE;
        }

        boolean readCommand() {
            int start = position;
            for (int turn = 0; turn < MOST_BYTES && here() >= 'a' && here() <= 'z'; turn++) {
                position++;
            }
            kind = kindOfWord(start);
            switch (kind) {
                case IF:
                    return readSpace() && readAllSets() && readAction() && readByte(';');
                case DROP:
                case UP:
                    return readSpace() && readRow() && readByte(';');
                case MERGE:
                    return readByte(';');
                default:
                    position = start;
                    return false;
            }
        }

        private int kindOfWord(int start) {
            if (wordIs(start, "if")) {
                return IF;
            }
            if (wordIs(start, "drop")) {
                return DROP;
            }
            if (wordIs(start, "up")) {
                return UP;
            }
            return wordIs(start, "merge") ? MERGE : NONE;
        }

        /** Compares what stands from a start up to the position. */
        private boolean wordIs(int start, String word) {
            if (start < 0 || position > length || position - start != word.length()) {
                return false;
            }
            for (int i = 0; i < word.length(); i++) {
                if (text[start + i] != word.charAt(i)) {
                    return false;
                }
            }
            return true;
        }

        private boolean readByte(int wanted) {
            if (here() != wanted) {
                return false;
            }
            position++;
            return true;
        }

        private boolean readSpace() {
            return readByte(' ');
        }

        /** The digit at the position, which stays, or NONE. */
        private int digitHere() {
            int value = here();
            return value >= '0' && value <= '9' ? value - '0' : NONE;
        }

        private boolean readRow() {
            int first = digitHere();
            if (first < 0) {
                return false;
            }
            position++;
            row = first;
            int second = digitHere();
            if (second >= 0) {
                position++;
                row = 10 * first + second;
            }
            return true;
        }

        private boolean readAction() {
            if (!readByte('>')) {
                return false;
            }
            action = digitHere();
            if (action < 0) {
                return false;
            }
            position++;
            return true;
        }

        private boolean readAllSets() {
            sets = 0;
            for (int condition = 0; condition < table.conditionCount; condition++) {
                if (condition > 0 && !readByte(',')) {
                    return false;
                }
                int set = readSet(condition);
                if (set == 0) {
                    return false;
                }
                sets |= set << (BITS * condition);
            }
            return true;
        }

        /** The set at the position, or 0 if none can be read. */
        private int readSet(int condition) {
            if (readByte('-')) {
                return table.fullSet(condition);
            }
            int set = 0;
            int least = 0;
            for (int turn = 0; turn < MOST_ANSWERS; turn++) {
                int answer = digitHere();
                if (answer < least || answer >= table.answerCount[condition]) {
                    break;
                }
                set |= 1 << answer;
                least = answer + 1;
                position++;
            }
            return set;
        }
    }
}
