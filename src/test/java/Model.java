import java.util.ArrayDeque;
import java.util.ArrayList;
import java.util.Deque;
import java.util.HashMap;
import java.util.List;
import java.util.Map;
import java.util.SortedSet;
import java.util.TreeSet;
import java.util.regex.Matcher;
import java.util.regex.Pattern;

/**
 * The document once more, in the most literal words and another shape than the class has: lists of sets,
 * cases as lists of answers, plans by trying all of them, and texts of commands by a pattern.
 */
final class Model {
    private static final int HOLE = 10;

    private static final class Row {
        int number;
        int action;
        List<SortedSet<Integer>> sets = new ArrayList<>();

        Row copy() {
            Row row = new Row();
            row.number = number;
            row.action = action;
            for (SortedSet<Integer> set : sets) {
                row.sets.add(new TreeSet<>(set));
            }
            return row;
        }

        boolean tells(List<Integer> answers) {
            for (int c = 0; c < answers.size(); c++) {
                if (!sets.get(c).contains(answers.get(c))) {
                    return false;
                }
            }
            return true;
        }
    }

    private static final class Step extends RuntimeException {
        private static final long serialVersionUID = 1L;
    }

    private static final class State {
        List<Integer> answers = new ArrayList<>();
        List<Integer> costs = new ArrayList<>();
        List<Row> rows = new ArrayList<>();
        int added;

        State copy() {
            State state = new State();
            state.answers.addAll(answers);
            state.costs.addAll(costs);
            for (Row row : rows) {
                state.rows.add(row.copy());
            }
            state.added = added;
            return state;
        }
    }

    private State now = new State();
    private Deque<State> saved = new ArrayDeque<>();
    private StringBuilder text = new StringBuilder();
    /** What is computed from the state, until it changes. */
    private Map<String, Integer> worst = new HashMap<>();
    private List<List<Integer>> cases;

    // ---- helpers

    private void changed() {
        worst.clear();
        cases = null;
    }

    private void save() {
        saved.push(now.copy());
        if (saved.size() > 4) {
            saved.removeLast();
        }
        changed();
    }

    private void needCondition(int condition) {
        if (condition < 0 || condition >= now.answers.size()) {
            throw new IndexOutOfBoundsException();
        }
    }

    private Row find(int number) {
        for (Row row : now.rows) {
            if (row.number == number) {
                return row;
            }
        }
        throw new IndexOutOfBoundsException();
    }

    private void need(boolean right) {
        if (!right) {
            throw new IllegalArgumentException();
        }
    }

    private void needState(boolean right) {
        if (!right) {
            throw new IllegalStateException();
        }
    }

    private static SortedSet<Integer> setOf(int mask) {
        SortedSet<Integer> set = new TreeSet<>();
        for (int a = 0; a < 32; a++) {
            if ((mask & 1 << a) != 0) {
                set.add(a);
            }
        }
        return set;
    }

    private static int maskOf(SortedSet<Integer> set) {
        int mask = 0;
        for (int a : set) {
            mask += 1 << a;
        }
        return mask;
    }

    private boolean isSet(int mask, int condition) {
        SortedSet<Integer> set = setOf(mask);
        return !set.isEmpty() && set.last() < now.answers.get(condition);
    }

    private List<List<Integer>> cases() {
        if (cases == null) {
            int count = 1;
            for (int k : now.answers) {
                count *= k;
            }
            cases = new ArrayList<>();
            for (int number = 0; number < count; number++) {
                List<Integer> answers = new ArrayList<>();
                int rest = number;
                for (int k : now.answers) {
                    answers.add(rest % k);
                    rest /= k;
                }
                cases.add(answers);
            }
        }
        return cases;
    }

    private List<Integer> needCase(int number) {
        if (number < 0 || number >= cases().size()) {
            throw new IndexOutOfBoundsException();
        }
        return cases().get(number);
    }

    private List<Row> tellers(List<Integer> answers) {
        List<Row> tellers = new ArrayList<>();
        for (Row row : now.rows) {
            if (row.tells(answers)) {
                tellers.add(row);
            }
        }
        return tellers;
    }

    private int actionOf(List<Integer> answers) {
        for (Row row : now.rows) {
            if (row.tells(answers)) {
                return row.action;
            }
        }
        return HOLE;
    }

    private boolean isNeeded(Row row) {
        return countOfCases(row) > 0;
    }

    private int countOfCases(Row row) {
        int count = 0;
        for (List<Integer> answers : cases()) {
            List<Row> tellers = tellers(answers);
            if (!tellers.isEmpty() && tellers.get(0) == row) {
                count++;
            }
        }
        return count;
    }

    // ---- conditions and rows

    int addCondition(int answers, int cost) {
        need(answers >= 2 && answers <= 4 && cost >= 1 && cost <= 9);
        needState(now.answers.size() < 5);
        save();
        now.answers.add(answers);
        now.costs.add(cost);
        for (Row row : now.rows) {
            row.sets.add(setOf((1 << answers) - 1));
        }
        return now.answers.size() - 1;
    }

    int setCost(int condition, int cost) {
        needCondition(condition);
        need(cost >= 1 && cost <= 9);
        save();
        return now.costs.set(condition, cost);
    }

    int addRow(int sets, int action) {
        need(action >= 0 && action <= 9 && sets >= 0);
        int rest = sets;
        Row row = new Row();
        for (int c = 0; c < now.answers.size(); c++) {
            need(isSet(rest % 16, c));
            row.sets.add(setOf(rest % 16));
            rest /= 16;
        }
        need(rest == 0);
        needState(now.rows.size() < 20);
        save();
        return append(row, action);
    }

    private int append(Row row, int action) {
        row.number = now.added++;
        row.action = action;
        now.rows.add(row);
        return row.number;
    }

    int setAnswers(int number, int condition, int set) {
        Row row = find(number);
        needCondition(condition);
        need(set >= 0 && isSet(set, condition));
        save();
        return maskOf(row.sets.set(condition, setOf(set)));
    }

    int setAction(int number, int action) {
        Row row = find(number);
        need(action >= 0 && action <= 9);
        save();
        int previous = row.action;
        row.action = action;
        return previous;
    }

    int dropRow(int number) {
        Row row = find(number);
        int place = now.rows.indexOf(row);
        save();
        now.rows.remove(row);
        return place;
    }

    int moveUp(int number) {
        int place = now.rows.indexOf(find(number));
        needState(place > 0);
        save();
        now.rows.add(place - 1, now.rows.remove(place));
        return place - 1;
    }

    private int reasonAt(int place) {
        if (place == now.rows.size() - 1) {
            return 1;
        }
        Row one = now.rows.get(place);
        Row two = now.rows.get(place + 1);
        if (one.action != two.action) {
            return 2;
        }
        int unlike = 0;
        for (int c = 0; c < now.answers.size(); c++) {
            unlike += one.sets.get(c).equals(two.sets.get(c)) ? 0 : 1;
        }
        return unlike > 1 ? 3 : 0;
    }

    private int mergeAt(int place) {
        Row one = now.rows.get(place);
        Row two = now.rows.remove(place + 1);
        for (int c = 0; c < now.answers.size(); c++) {
            one.sets.get(c).addAll(two.sets.get(c));
        }
        return two.number;
    }

    int merge(int number) {
        int place = now.rows.indexOf(find(number));
        needState(reasonAt(place) == 0);
        save();
        return mergeAt(place);
    }

    int mergeAll() {
        save();
        return mergeThem();
    }

    private int mergeThem() {
        int before = now.rows.size();
        for (int place = 0; place < now.rows.size(); place++) {
            if (reasonAt(place) == 0) {
                mergeAt(place);
                place = -1;
            }
        }
        return before - now.rows.size();
    }

    int prune() {
        save();
        List<Row> needed = new ArrayList<>();
        for (Row row : now.rows) {
            if (isNeeded(row)) {
                needed.add(row);
            }
        }
        int removed = now.rows.size() - needed.size();
        now.rows = needed;
        return removed;
    }

    // ---- values

    int condition(int condition, int what) {
        needCondition(condition);
        need(what >= 0 && what <= 2);
        if (what == 0) {
            return now.answers.get(condition);
        }
        return what == 1 ? now.costs.get(condition) : matters(condition);
    }

    private int matters(int condition) {
        for (List<Integer> one : cases()) {
            for (int a = 0; a < now.answers.get(condition); a++) {
                List<Integer> two = new ArrayList<>(one);
                two.set(condition, a);
                if (actionOf(one) != actionOf(two)) {
                    return 1;
                }
            }
        }
        return 0;
    }

    int row(int number, int what) {
        Row row = find(number);
        need(what >= 0 && what <= 5);
        switch (what) {
            case 0:
                return now.rows.indexOf(row);
            case 1:
                return row.action;
            case 2:
                int told = 0;
                for (List<Integer> answers : cases()) {
                    told += row.tells(answers) ? 1 : 0;
                }
                return told;
            case 3:
                return countOfCases(row);
            case 4:
                return isNeeded(row) ? 1 : 0;
            default:
                int sets = 0;
                for (int c = now.answers.size() - 1; c >= 0; c--) {
                    sets = 16 * sets + maskOf(row.sets.get(c));
                }
                return sets;
        }
    }

    int answers(int number, int condition) {
        Row row = find(number);
        needCondition(condition);
        return maskOf(row.sets.get(condition));
    }

    int rowAt(int place) {
        need(place >= 0);
        return place < now.rows.size() ? now.rows.get(place).number : -1;
    }

    int caseOf(int number, int what) {
        List<Integer> answers = needCase(number);
        need(what >= 0 && what <= 4);
        List<Row> tellers = tellers(answers);
        switch (what) {
            case 0:
                return tellers.isEmpty() ? -1 : tellers.get(0).number;
            case 1:
                return actionOf(answers);
            case 2:
                return tellers.size();
            case 3:
                return isConflict(tellers) ? 1 : 0;
            default:
                return tellers.size() < 2 ? -1 : tellers.get(1).number;
        }
    }

    private static boolean isConflict(List<Row> tellers) {
        for (Row one : tellers) {
            for (Row two : tellers) {
                if (one.action != two.action) {
                    return true;
                }
            }
        }
        return false;
    }

    int answerOf(int number, int condition) {
        List<Integer> answers = needCase(number);
        needCondition(condition);
        return answers.get(condition);
    }

    private List<Integer> holes() {
        List<Integer> holes = new ArrayList<>();
        for (int number = 0; number < cases().size(); number++) {
            if (tellers(cases().get(number)).isEmpty()) {
                holes.add(number);
            }
        }
        return holes;
    }

    int hole(int index) {
        need(index >= 0);
        return index < holes().size() ? holes().get(index) : -1;
    }

    int whole(int what) {
        need(what >= 0 && what <= 11);
        int count = 0;
        switch (what) {
            case 0:
                return now.answers.size();
            case 1:
                return cases().size();
            case 2:
                return now.rows.size();
            case 3:
                return holes().size();
            case 4:
                for (List<Integer> answers : cases()) {
                    count += tellers(answers).size() > 1 ? 1 : 0;
                }
                return count;
            case 5:
                for (List<Integer> answers : cases()) {
                    count += isConflict(tellers(answers)) ? 1 : 0;
                }
                return count;
            case 6:
                for (Row row : now.rows) {
                    count += isNeeded(row) ? 1 : 0;
                }
                return count;
            case 7:
                return costFrom(0);
            case 8:
                return ask(0);
            case 9:
                SortedSet<Integer> actions = new TreeSet<>();
                for (List<Integer> answers : cases()) {
                    actions.add(actionOf(answers));
                }
                return actions.size();
            case 10:
                return now.added;
            default:
                return text.length();
        }
    }

    // ---- what if

    int reason(int number) {
        return reasonAt(now.rows.indexOf(find(number)));
    }

    /** For each condition its answer, or -1. */
    private List<Integer> known(int packed) {
        need(packed >= 0);
        List<Integer> known = new ArrayList<>();
        int rest = packed;
        for (int k : now.answers) {
            need(rest % 16 <= k);
            known.add(rest % 16 - 1);
            rest /= 16;
        }
        need(rest == 0);
        return known;
    }

    private List<List<Integer>> fitting(List<Integer> known) {
        List<List<Integer>> fitting = new ArrayList<>();
        for (List<Integer> answers : cases()) {
            boolean fits = true;
            for (int c = 0; c < known.size(); c++) {
                fits &= known.get(c) < 0 || known.get(c).equals(answers.get(c));
            }
            if (fits) {
                fitting.add(answers);
            }
        }
        return fitting;
    }

    private int worstFrom(List<Integer> known) {
        String key = known.toString();
        Integer before = worst.get(key);
        if (before == null) {
            SortedSet<Integer> actions = new TreeSet<>();
            for (List<Integer> answers : fitting(known)) {
                actions.add(actionOf(answers));
            }
            int least = actions.size() == 1 ? 0 : Integer.MAX_VALUE;
            for (int c = 0; c < known.size() && actions.size() > 1; c++) {
                least = Math.min(least, known.get(c) < 0 ? worstAsking(known, c) : Integer.MAX_VALUE);
            }
            before = least;
            worst.put(key, before);
        }
        return before;
    }

    private int worstAsking(List<Integer> known, int condition) {
        int most = 0;
        for (int a = 0; a < now.answers.get(condition); a++) {
            List<Integer> then = new ArrayList<>(known);
            then.set(condition, a);
            most = Math.max(most, now.costs.get(condition) + worstFrom(then));
        }
        return most;
    }

    int ask(int packed) {
        List<Integer> known = known(packed);
        int least = worstFrom(known);
        for (int c = 0; c < known.size() && least > 0; c++) {
            if (known.get(c) < 0 && worstAsking(known, c) == least) {
                return c;
            }
        }
        return -1;
    }

    int costFrom(int packed) {
        return worstFrom(known(packed));
    }

    int changedWithout(int number) {
        Row row = find(number);
        int changed = 0;
        for (List<Integer> answers : cases()) {
            int place = now.rows.indexOf(row);
            int before = actionOf(answers);
            now.rows.remove(row);
            changed += before == actionOf(answers) ? 0 : 1;
            now.rows.add(place, row);
        }
        return changed;
    }

    int bestAction(int number) {
        List<Integer> answers = needCase(number);
        if (!tellers(answers).isEmpty()) {
            return -1;
        }
        int best = -1;
        int least = Integer.MAX_VALUE;
        for (int action = 0; action <= 9; action++) {
            Row row = new Row();
            row.action = action;
            for (int a : answers) {
                row.sets.add(setOf(1 << a));
            }
            now.rows.add(row);
            changed();
            int then = costFrom(0);
            if (then < least) {
                least = then;
                best = action;
            }
            now.rows.remove(row);
        }
        changed();
        return best;
    }

    // ---- command text, undo and checksum

    int type(int value) {
        need(value >= 0 && value <= 127);
        needState(text.length() < 150);
        text.append((char) value);
        return text.length();
    }

    int clearCommands() {
        int length = text.length();
        text.setLength(0);
        return length;
    }

    private String patternOfCommand() {
        StringBuilder sets = new StringBuilder();
        for (int k : now.answers) {
            sets.append(sets.length() > 0 ? "," : "").append("(?:-");
            for (int mask = 1; mask < 1 << k; mask++) {
                sets.append('|');
                for (int a : setOf(mask)) {
                    sets.append(a);
                }
            }
            sets.append(")");
        }
        return "(?:if " + sets + ">[0-9];|drop [0-9][0-9]?;|up [0-9][0-9]?;|merge;)";
    }

    /** The fault of the command text, or -1. */
    private int fault() {
        Pattern pattern = Pattern.compile("(?: *" + patternOfCommand() + ")* *", Pattern.DOTALL);
        String all = text.toString();
        if (pattern.matcher(all).matches()) {
            return -1;
        }
        int fault = 0;
        while (fault < all.length()) {
            Matcher matcher = pattern.matcher(all.substring(0, fault + 1));
            if (!matcher.matches() && !matcher.hitEnd()) {
                break;
            }
            fault++;
        }
        return wordFault(all, fault);
    }

    /** A word that is none of the commands is at fault with its first byte. */
    private static int wordFault(String all, int fault) {
        int start = fault;
        while (start > 0 && isLetter(all.charAt(start - 1))) {
            start--;
        }
        int end = fault;
        while (end < all.length() && isLetter(all.charAt(end))) {
            end++;
        }
        String word = all.substring(start, end);
        boolean isCommand = word.equals("if") || word.equals("drop") || word.equals("up") || word.equals("merge");
        return word.isEmpty() || isCommand ? fault : start;
    }

    private static boolean isLetter(char c) {
        return c >= 'a' && c <= 'z';
    }

    int runCommands() {
        int fault = fault();
        if (fault >= 0) {
            return -10 - fault;
        }
        save();
        int done = 0;
        String[] commands = text.toString().trim().isEmpty() ? new String[0] : text.toString().split(";");
        try {
            for (String command : commands) {
                if (!command.trim().isEmpty()) {
                    carryOut(command.trim());
                    done++;
                }
            }
        } catch (Step stop) {
            changed();
            return done;
        }
        changed();
        return done;
    }

    private void carryOut(String command) {
        if (command.equals("merge")) {
            mergeThem();
            return;
        }
        String rest = command.substring(command.indexOf(' ') + 1);
        if (command.startsWith("if")) {
            stopUnless(now.rows.size() < 20);
            Row row = new Row();
            String[] sets = rest.substring(0, rest.indexOf('>')).split(",");
            for (int c = 0; c < now.answers.size(); c++) {
                int mask = sets[c].equals("-") ? (1 << now.answers.get(c)) - 1 : 0;
                for (char digit : sets[c].toCharArray()) {
                    mask |= digit == '-' ? 0 : 1 << digit - '0';
                }
                row.sets.add(setOf(mask));
            }
            append(row, Integer.parseInt(rest.substring(rest.indexOf('>') + 1)));
            return;
        }
        int place = -1;
        for (int i = 0; i < now.rows.size(); i++) {
            place = now.rows.get(i).number == Integer.parseInt(rest) ? i : place;
        }
        stopUnless(place >= 0);
        Row row = now.rows.remove(place);
        if (command.startsWith("up")) {
            now.rows.add(Math.max(0, place - 1), row);
            stopUnless(place > 0);
        }
    }

    private static void stopUnless(boolean right) {
        if (!right) {
            throw new Step();
        }
    }

    int undo() {
        needState(!saved.isEmpty());
        now = saved.pop();
        changed();
        return saved.size();
    }

    long digest() {
        List<Integer> values = new ArrayList<>();
        values.add(saved.size());
        for (int what = 0; what <= 11; what++) {
            values.add(whole(what));
        }
        for (int c = 0; c < now.answers.size(); c++) {
            for (int what = 0; what <= 2; what++) {
                values.add(condition(c, what));
            }
        }
        for (Row row : now.rows) {
            values.add(row.number);
            for (int what = 0; what <= 5; what++) {
                values.add(row(row.number, what));
            }
        }
        for (int number = 0; number < cases().size(); number++) {
            for (int what = 1; what <= 3; what++) {
                values.add(caseOf(number, what));
            }
        }
        long h = 43870;
        for (int v : values) {
            h = 31 * h + v;
        }
        return h;
    }
}
