/** Promises 25 to 27 and the texts of commands: a test for each sentence that names a boundary case. */
public final class TextEdgesTest {
    private static final Check check = new Check("TextEdgesTest");
    private static final int MOST_BYTES = 150;

    public static void main(String[] args) {
        type();
        clearCommands();
        wholeTexts();
        ifCommands();
        setsOfAnswers();
        actions();
        rowNumbers();
        mergeCommands();
        spaces();
        faults();
        words();
        runCommands();
        runsThatStop();
        statesOfRuns();
        check.close();
    }

    // ---- helpers

    /** A table of these conditions has the text, which has this fault; nothing is done. */
    private static void fault(String text, int fault, int... answers) {
        AskedRules x = Tables.with(answers);
        Tables.write(x, text);
        long before = x.digest();
        check.due("'" + text + "'", -10 - fault, () -> x.runCommands());
        check.due("digest after '" + text + "'", before, () -> x.digest());
    }

    /** A table of these conditions has the text, which has no fault. */
    private static void good(String text, int done, int... answers) {
        AskedRules x = Tables.with(answers);
        check.due("'" + text + "'", done, () -> Tables.run(x, text));
    }

    private static String times(String text, int times) {
        StringBuilder all = new StringBuilder();
        for (int i = 0; i < times; i++) {
            all.append(text);
        }
        return all.toString();
    }

    private static void order(String call, String want, AskedRules x) {
        check.same("order " + call, want, Tables.order(x));
    }

    // ---- promise 25

    private static void type() {
        valueInRange();
        textOfMostBytes();
        valueAheadOfTheFullText();
        lengthAfterType();
    }

    private static void valueInRange() {
        check.about("type: IllegalArgumentException if value is out of range (0 to 127)");
        AskedRules x = new AskedRules();
        for (int value : new int[] {Tables.LEAST, -128, -1, 128, 129, 255, 256, 256 + 'm', Tables.MOST}) {
            check.argument("value " + value, () -> x.type(value));
        }
        for (int value = 0; value <= 127; value++) {
            int its = value;
            check.due("value " + its, its + 1, () -> x.type(its));
        }
    }

    private static void textOfMostBytes() {
        check.about("type: IllegalStateException if the text has 150 bytes");
        AskedRules x = new AskedRules();
        Tables.append(x, times(" ", MOST_BYTES - 1));
        check.due("the last byte", MOST_BYTES, () -> x.type(' '));
        check.state("one more", () -> x.type(' '));
        check.state("one more, another one", () -> x.type('a'));
        check.due("length", MOST_BYTES, () -> x.whole(11));
        check.due("what was refused is not there", 0, () -> x.runCommands());
        x.clearCommands();
        check.due("room again", 1, () -> x.type('a'));
    }

    private static void valueAheadOfTheFullText() {
        check.about("type: the exception that is listed first is thrown");
        AskedRules x = new AskedRules();
        Tables.append(x, times(";", MOST_BYTES));
        check.argument("full, -1", () -> x.type(-1));
        check.argument("full, 128", () -> x.type(128));
        check.state("full, 127", () -> x.type(127));
        check.state("full, 0", () -> x.type(0));
    }

    private static void lengthAfterType() {
        check.about("type: Appends a byte to the command text; Returns the length of the text");
        AskedRules x = new AskedRules();
        String text = "merge;if >3;";
        for (int i = 0; i < text.length(); i++) {
            int at = i;
            check.due("byte " + at, at + 1, () -> x.type(text.charAt(at)));
        }
        check.due("they stand in their order", 2, () -> x.runCommands());
    }

    // ---- promise 26

    private static void clearCommands() {
        lengthThatItHad();
        nothingIsLeft();
    }

    private static void lengthThatItHad() {
        check.about("clearCommands: Returns the length that it had, none to 150");
        AskedRules x = new AskedRules();
        check.due("empty", 0, () -> x.clearCommands());
        x.type(0);
        check.due("one byte", 1, () -> x.clearCommands());
        check.due("empty again", 0, () -> x.clearCommands());
        Tables.append(x, times("x", MOST_BYTES));
        check.due("full", MOST_BYTES, () -> x.clearCommands());
        check.due("empty again", 0, () -> x.clearCommands());
    }

    private static void nothingIsLeft() {
        check.about("clearCommands: Empties the command text");
        AskedRules x = new AskedRules();
        Tables.append(x, "x merge;");
        x.clearCommands();
        check.due("length", 0, () -> x.whole(11));
        check.due("the fault is gone", 0, () -> x.runCommands());
        Tables.append(x, "merge;merge;");
        x.clearCommands();
        Tables.append(x, "mer");
        check.due("what stood behind is gone", -10, () -> x.runCommands());
        Tables.append(x, "ge");
        check.due("what stood behind is gone", -15, () -> x.runCommands());
        Tables.append(x, ";");
        check.due("as if typed at once", 1, () -> x.runCommands());
    }

    // ---- whole texts

    private static void wholeTexts() {
        emptyText();
        spacesAlone();
        semicolonEndsEach();
        fullText();
    }

    private static void emptyText() {
        check.about("perhaps none: a text that is empty has no fault");
        good("", 0);
        good("", 0, 2, 3, 4);
    }

    private static void spacesAlone() {
        check.about("a text that has spaces alone has no fault");
        good(" ", 0);
        good("  ", 0, 2);
        good(times(" ", MOST_BYTES - 1), 0);
        good(times(" ", MOST_BYTES), 0);
    }

    private static void semicolonEndsEach() {
        check.about("each ended by a semicolon");
        fault("merge", 5);
        fault("merge;merge", 11);
        fault("if >1", 5);
        fault("drop 1", 6);
        fault("up 1", 4);
        fault("merge:", 5);
        fault(";", 0);
        fault("merge;;", 6);
        fault("; ", 0);
        good("merge;", 1);
        good("merge;merge;", 2);
    }

    private static void fullText() {
        check.about("The command text has at most 150 bytes");
        good(times("merge;", 25), 25);
        good(times("if >1;", 20) + times("merge;", 5), 25);
        good(times(" ", 144) + "merge;", 1);
        good("merge;" + times(" ", 144), 1);
        fault(times("merge;", 24) + " merge", 150);
        fault(times("merge;", 24) + "  merg", 146);
        fault(times("merge;", 24) + "merge ", 149);
        fault(times("merge;", 24) + "     ;", 149);
        fault(times("merge;", 24) + "if >12", 149);
        fault(times("merge;", 24) + "  if >", 150);
        fault(times("merge;", 24) + "   if ", 150);
        fault(times("merge;", 24) + "    if", 150);
        fault(times("a", 150), 0);
    }

    // ---- if

    private static void ifCommands() {
        oneSetForEachCondition();
        conditionsWhenItIsRead();
        ifWithoutConditions();
        spaceAfterIf();
        commaBetweenSets();
        noCommaElsewhere();
        ifIsAddRow();
    }

    private static void oneSetForEachCondition() {
        check.about("for each condition that there is one set");
        good("if ->1;", 1, 2);
        good("if -,->1;", 1, 2, 2);
        good("if -,-,-,-,->1;", 1, 2, 2, 2, 2, 2);
        fault("if >1;", 3, 2);
        fault("if ->1;", 4, 2, 2);
        fault("if 0>1;", 4, 2, 2);
        fault("if -,->1;", 4, 2);
        fault("if -,-,-,->1;", 10, 2, 2, 2, 2, 2);
        fault("if -,-,-,-,-,->1;", 12, 2, 2, 2, 2, 2);
    }

    private static void conditionsWhenItIsRead() {
        check.about("for each condition that there is when it is read");
        AskedRules x = new AskedRules();
        Tables.write(x, "if ->4;");
        check.due("no condition", -13, () -> x.runCommands());
        x.addCondition(2, 1);
        check.due("one", 1, () -> x.runCommands());
        x.addCondition(2, 1);
        check.due("two", -14, () -> x.runCommands());
        x.undo();
        check.due("one again", 1, () -> x.runCommands());
        Tables.write(x, "if 2>4;");
        check.due("no such answer", -13, () -> x.runCommands());
        AskedRules y = Tables.with(3);
        Tables.write(y, "if 2>4;");
        check.due("such an answer", 1, () -> y.runCommands());
    }

    private static void ifWithoutConditions() {
        check.about("Without conditions, a command \"if\" has no sets: the \">\" follows the space");
        good("if >0;", 1);
        good("if >9;", 1);
        fault("if ->1;", 3);
        fault("if 0>1;", 3);
        fault("if ,>1;", 3);
        fault("if  >1;", 3);
        fault("if>1;", 2);
        AskedRules x = new AskedRules();
        Tables.run(x, "if >6;");
        check.due("sets", 0, () -> x.row(0, 5));
        check.due("action", 6, () -> x.row(0, 1));
    }

    private static void spaceAfterIf() {
        check.about("\"if\", a space: one, no more and no less");
        fault("if", 2, 2);
        fault("if ", 3, 2);
        fault("if-", 2, 2);
        fault("if0>1;", 2, 2);
        fault("if  0>1;", 3, 2);
        fault("if\t0>1;", 2, 2);
        good("if 0>1;", 1, 2);
    }

    private static void commaBetweenSets() {
        check.about("Between two sets stands one comma");
        good("if 0,1>1;", 1, 2, 2);
        fault("if 01>1;", 5, 2, 2);
        fault("if -->1;", 4, 2, 2);
        fault("if 0-,1>1;", 4, 2, 2);
        fault("if 0,,1>1;", 5, 2, 2);
        fault("if 0;1>1;", 4, 2, 2);
        fault("if 0.1>1;", 4, 2, 2);
        fault("if 0", 4, 2, 2);
        fault("if 0,", 5, 2, 2);
    }

    private static void noCommaElsewhere() {
        check.about("Between two sets, and only there");
        fault("if ,0>1;", 3, 2);
        fault("if 0,>1;", 4, 2);
        fault("if ,0,1>1;", 3, 2, 2);
        fault("if 0,1,>1;", 6, 2, 2);
        fault("if 0>,1;", 5, 2);
        fault("if 0>1,;", 6, 2);
        fault("merge,", 5);
        fault("drop 1,2;", 6);
    }

    private static void ifIsAddRow() {
        check.about("addRow() of a row with these sets");
        AskedRules x = Tables.with(2, 3, 4);
        check.due("carried out", 2, () -> Tables.run(x, "if 1,02,->7;if 0,-,3>0;"));
        check.due("sets", 0xf52, () -> x.row(0, 5));
        check.due("action", 7, () -> x.row(0, 1));
        check.due("sets", 0x871, () -> x.row(1, 5));
        check.due("action", 0, () -> x.row(1, 1));
        order("of both", "0 1", x);
    }

    // ---- sets of answers

    private static void setsOfAnswers() {
        allAnswers();
        oneOrMoreDigits();
        eachAnAnswer();
        ascendingOrder();
        noBytesBesideTheDigits();
    }

    private static void allAnswers() {
        check.about("\"-\" for all answers");
        for (int answers = 2; answers <= 4; answers++) {
            AskedRules x = Tables.with(answers, answers);
            int all = (1 << answers) - 1;
            check.due("carried out", 1, () -> Tables.run(x, "if -,->1;"));
            check.due("sets of " + answers + " answers", all << 4 | all, () -> x.row(0, 5));
            fault("if -0>1;", 4, answers);
            fault("if 0->1;", 4, answers);
            fault("if -->1;", 4, answers);
        }
    }

    private static void oneOrMoreDigits() {
        check.about("or one or more digits 0 to 3");
        for (int answers = 2; answers <= 4; answers++) {
            for (int set = 1; set < 1 << answers; set++) {
                int its = set;
                AskedRules x = Tables.with(answers, answers);
                String digits = digitsOf(set);
                check.due("set " + digits, 1, () -> Tables.run(x, "if 0," + digits + ">1;"));
                check.due("its bits", its << 4 | 1, () -> x.row(0, 5));
                AskedRules y = Tables.with(answers, answers);
                check.due("set " + digits, 1, () -> Tables.run(y, "if " + digits + ",0>1;"));
                check.due("its bits", 0x10 | its, () -> y.row(0, 5));
            }
        }
        fault("if ,0>1;", 3, 2, 2);
        fault("if 0,>1;", 5, 2, 2);
    }

    private static String digitsOf(int set) {
        StringBuilder digits = new StringBuilder();
        for (int answer = 0; answer < 4; answer++) {
            if ((set >> answer & 1) == 1) {
                digits.append(answer);
            }
        }
        return digits.toString();
    }

    private static void eachAnAnswer() {
        check.about("each an answer of the condition");
        for (int answers = 2; answers <= 4; answers++) {
            for (int digit = 0; digit <= 9; digit++) {
                if (digit < answers) {
                    good("if " + digit + ">1;", 1, answers);
                } else {
                    fault("if " + digit + ">1;", 3, answers);
                    fault("if 0" + digit + ">1;", 4, answers);
                    fault("if -," + digit + ">1;", 5, 4, answers);
                }
            }
        }
        fault("if 3,3>1;", 5, 4, 3);
        fault("if 2,2>1;", 3, 2, 3);
    }

    private static void ascendingOrder() {
        check.about("in ascending order");
        good("if 0123>1;", 1, 4);
        good("if 03>1;", 1, 4);
        fault("if 10>1;", 4, 4);
        fault("if 0132>1;", 6, 4);
        fault("if 0213>1;", 5, 4);
        fault("if 30>1;", 4, 4);
        fault("if 00>1;", 4, 4);
        fault("if 33>1;", 4, 4);
        fault("if 0112>1;", 5, 4);
        fault("if 01230>1;", 7, 4);
        fault("if 01233>1;", 7, 4);
        fault("if 01234>1;", 7, 4);
        good("if 3,0>1;", 1, 4, 4);
    }

    private static void noBytesBesideTheDigits() {
        check.about("the first byte that cannot stand at its place, in a set");
        for (char sign : new char[] {'/', ':', 'a', ' ', ';', 0, 127, '+', '_'}) {
            fault("if " + sign + ">1;", 3, 4);
            fault("if 0" + sign + ">1;", 4, 4);
            fault("if 0123" + sign + ">1;", 7, 4);
        }
    }

    // ---- actions

    private static void actions() {
        check.about("then \">\", a digit 0 to 9 for the action");
        for (int action = 0; action <= 9; action++) {
            int its = action;
            AskedRules x = Tables.with(2);
            check.due("action " + its, 1, () -> Tables.run(x, "if 0>" + its + ";"));
            check.due("its action", its, () -> x.row(0, 1));
        }
        for (char sign : new char[] {'/', ':', 'a', ' ', ';', '-', '>', 0, 127}) {
            fault("if >" + sign + ";", 4);
        }
        fault("if >", 4);
        fault("if 0", 4, 2);
        fault("if 0;", 4, 2);
        fault("if 0=1;", 4, 2);
        fault("if >>1;", 4);
        fault("if >10;", 5);
        fault("if >00;", 5);
        fault("if 0>-1;", 5, 2);
    }

    // ---- drop and up

    private static void rowNumbers() {
        oneOrTwoDigits();
        zeroInFront();
        everyRowNumber();
        spaceAheadOfTheNumber();
        noFaultWithoutARow();
    }

    private static void oneOrTwoDigits() {
        check.about("\"drop\", a space, one or two digits; \"up\", a space, one or two such digits");
        fault("drop", 4);
        fault("drop ", 5);
        fault("drop ;", 5);
        fault("drop a;", 5);
        fault("drop /;", 5);
        fault("drop :;", 5);
        fault("drop -1;", 5);
        fault("drop 0", 6);
        fault("drop 00", 7);
        fault("drop 0/;", 6);
        fault("drop 0:;", 6);
        fault("drop 000;", 7);
        fault("drop 100;", 7);
        fault("up", 2);
        fault("up ", 3);
        fault("up ;", 3);
        fault("up b;", 3);
        fault("up 1", 4);
        fault("up 12", 5);
        fault("up 123;", 5);
        good("drop 0;", 0);
        good("drop 99;", 0);
        good("up 9;", 0);
        good("up 10;", 0);
    }

    private static void zeroInFront() {
        check.about("(a zero in front is allowed)");
        AskedRules x = Tables.withRows(12);
        check.due("carried out", 4, () -> Tables.run(x, "drop 00;drop 07;drop 8;drop 09;"));
        order("then", "1 2 3 4 5 6 10 11", x);
        check.due("carried out", 4, () -> Tables.run(x, "up 02;up 3;up 11;up 06;"));
        order("then", "2 3 1 4 6 5 11 10", x);
    }

    private static void everyRowNumber() {
        check.about("dropRow() and moveUp() of rows 0 to 99");
        AskedRules x = new AskedRules();
        for (int row = 0; row <= 100; row++) {
            x.addRow(0, 1);
            if (row % 9 > 0 && row < 99) {
                x.dropRow(row);
            }
        }
        order("first", "0 9 18 27 36 45 54 63 72 81 90 99 100", x);
        check.due("carried out", 5, () -> Tables.run(x, "up 99;up 99;drop 90;drop 18;up 9;"));
        order("then", "9 0 27 36 45 54 63 72 99 81 100", x);
        check.due("three digits cannot be told", -17, () -> Tables.run(x, "drop 100;"));
        check.due("10 is not 100", 0, () -> Tables.run(x, "drop 10;"));
        check.due("the first and the last", 2, () -> Tables.run(x, "drop 0;drop 99;"));
        order("then", "9 27 36 45 54 63 72 81 100", x);
    }

    private static void spaceAheadOfTheNumber() {
        check.about("\"drop\", a space; \"up\", a space: one, no more and no less");
        fault("drop1;", 4);
        fault("drop  1;", 5);
        fault("up1;", 2);
        fault("up  1;", 3);
        fault("drop;", 4);
        fault("up;", 2);
        good("drop 1;", 0);
        good("up 1;", 0);
    }

    private static void noFaultWithoutARow() {
        check.about("(That a row does not exist is no fault.)");
        good("drop 5;", 0);
        good("up 5;", 0);
        good("if >1;drop 1;", 1);
        good("if >1;if >1;drop 0;up 0;", 3);
    }

    // ---- merge

    private static void mergeCommands() {
        check.about("\"merge\": mergeAll()");
        good("merge;", 1);
        fault("merge 1;", 5);
        fault("merge1;", 5);
        fault("merge;1", 6);
        fault("merge", 5);
        AskedRules x = new AskedRules();
        check.due("carried out", 21, () -> Tables.run(x, times("if >1;", 20) + "merge;"));
        order("then", "0", x);
        check.due("it makes room", 22, () -> Tables.run(x, times("if >1;", 19) + "merge;if >2;merge;"));
        order("then", "0 39", x);
    }

    // ---- spaces

    private static void spaces() {
        check.about("Spaces may stand in front of a command, and at the end");
        good(" merge;", 1);
        good("   merge;   merge;", 2);
        good("merge; ", 1);
        good("merge;   ", 1);
        good("  if >1;  drop 0;  ", 2);
        check.about("Spaces stand nowhere else but as told");
        fault("mer ge;", 0);
        fault("merge ;", 5);
        fault("if 0 >1;", 4, 2);
        fault("if 0 1>1;", 4, 2);
        fault("if 0> 1;", 5, 2);
        fault("if 0>1 ;", 6, 2);
        fault("if 0 ,1>1;", 4, 2, 2);
        fault("if 0, 1>1;", 5, 2, 2);
        fault("if 0,1 >1;", 6, 2, 2);
        fault("if - ,1>1;", 4, 2, 2);
        fault("drop 1 ;", 6);
        fault("drop 1 2;", 6);
        fault("up 12 ;", 5);
        fault("i f >1;", 0);
        for (char sign : new char[] {'\t', '\n', '\r', 0, 127, '_'}) {
            fault(sign + "merge;", 0);
            fault("merge;" + sign, 6);
        }
    }

    // ---- faults

    private static void faults() {
        firstByteThatCannotStand();
        endsTooSoon();
        firstOfSeveralFaults();
    }

    private static void firstByteThatCannotStand() {
        check.about("the index of the first byte that cannot stand at its place");
        String text = " if 02,->7; drop 1;up 22; merge; ";
        good(text, 1, 3, 2);
        for (int i = 0; i < text.length(); i++) {
            String before = text.substring(0, i);
            String after = text.substring(i + 1);
            boolean inWord = text.charAt(i) >= 'a' && text.charAt(i) <= 'z';
            int start = i;
            while (inWord && text.charAt(start - 1) != ' ' && text.charAt(start - 1) != ';') {
                start--;
            }
            fault(before + "!" + after, start, 3, 2);
        }
    }

    private static void endsTooSoon() {
        check.about("or the length of the text if it ends too soon");
        String text = "if 02,->7;drop 12;up 3;merge;";
        for (int length = 0; length <= text.length(); length++) {
            String part = text.substring(0, length);
            char last = length > 0 ? part.charAt(length - 1) : ';';
            String[] words = part.split("[^a-z]");
            String word = last >= 'a' && last <= 'z' ? words[words.length - 1] : "if";
            boolean isCommand = word.equals("if") || word.equals("drop") || word.equals("up") || word.equals("merge");
            if (last == ';') {
                AskedRules x = Tables.with(3, 2);
                check.due("'" + part + "' has no fault", 1, () -> Tables.run(x, part) >= 0 ? 1 : 0);
            } else if (isCommand) {
                fault(part, length, 3, 2);
            } else {
                fault(part, length - word.length(), 3, 2);
            }
        }
    }

    private static void firstOfSeveralFaults() {
        check.about("the first byte that cannot stand at its place: of several faults the first one");
        fault("x;x;", 0);
        fault("merge;x;y;", 6);
        fault("if 9>a", 3, 2);
        fault("drop 1x;merge;;", 6);
        fault("if 0>1;if 2>1;if 3>1;", 10, 2);
    }

    // ---- words

    private static void words() {
        wordOfNoCommand();
        wordAtTheEndOfTheText();
        byteAfterAWord();
        noWordAtAll();
    }

    private static void wordOfNoCommand() {
        check.about("A word that is none of these is at fault with its first byte");
        String[] words = {"a", "z", "i", "iff", "fi", "d", "dro", "drops", "rop", "u", "ups", "p", "merg", "merges",
            "emerge", "mergeall", "ifdrop", "dropif", "upup", "mergemerge", "ix", "uf", "xf", "drap", "mirge"};
        for (String word : words) {
            fault(word + ";", 0);
            fault(word + " 1;", 0);
            fault("  " + word + " >1;", 2);
            fault("merge;" + word + ";", 6);
            fault("merge; " + word + "!", 7);
        }
    }

    private static void wordAtTheEndOfTheText() {
        check.about("found when (..) the end of the text follows it");
        fault("x", 0);
        fault("me", 0);
        fault("merg", 0);
        fault("mergee", 0);
        fault("  dro", 2);
        fault("merge;u", 6);
        fault("merge;d", 6);
        fault("merge;i", 6);
        check.about("a word that is one of these is not at fault itself: the text ends too soon");
        fault("merge", 5);
        fault("drop", 4);
        fault("up", 2);
        fault("if", 2);
        fault("merge;up", 8);
    }

    private static void byteAfterAWord() {
        check.about("found when a byte that is none of a to z follows it");
        for (char sign : new char[] {'`', '{', 'A', 'Z', '0', ' ', ';', 0, 127, '-'}) {
            fault("dr" + sign + "op 1;", 0);
            fault("ifx" + sign, 0);
            fault("x" + sign, 0);
        }
        for (char sign : new char[] {'`', '{', 'A', 'Z', '0', ';', 0, 127, '-'}) {
            fault("if" + sign, 2);
            fault("drop" + sign, 4);
            fault("up" + sign, 2);
        }
        for (char sign : new char[] {'`', '{', 'E', '0', ' ', 0, 127, '-'}) {
            fault("merge" + sign, 5);
        }
        for (char sign = 'a'; sign <= 'z'; sign++) {
            fault("if" + sign + " >1;", 0);
            fault("merge" + sign + ";", 0);
        }
    }

    private static void noWordAtAll() {
        check.about("the first byte that cannot stand at its place, where a command should begin");
        for (char sign : new char[] {0, '\t', '!', '-', '0', '9', ',', '>', ';', '@', 'A', 'Z', '[', '`', '{', 127}) {
            fault("" + sign, 0);
            fault("  " + sign + "merge;", 2);
            fault("merge;" + sign, 6);
        }
        fault("If >1;", 0);
        fault("MERGE;", 0);
        fault("Drop 1;", 0);
        fault("iF >1;", 0);
    }

    // ---- promise 27

    private static void runCommands() {
        nothingIsDoneWithAFault();
        textStaysAsItIs();
        commandsInTheirOrder();
        numberOfCommands();
    }

    private static void nothingIsDoneWithAFault() {
        check.about("runCommands: if it has a fault, nothing is done; -10 minus the fault");
        AskedRules x = Tables.with(2);
        x.addRow(1, 1);
        long before = x.digest();
        x.type('x');
        check.due("fault 0", -10, () -> x.runCommands());
        check.due("once more", -10, () -> x.runCommands());
        x.clearCommands();
        check.due("digest", before, () -> x.digest());
        Tables.write(x, "if 0>1;drop 0;merge;x");
        long then = x.digest();
        check.due("a fault at the end", -30, () -> x.runCommands());
        check.due("digest", then, () -> x.digest());
        check.due("added", 1, () -> x.whole(10));
        Tables.write(x, times("if 0>1;", 21) + "if");
        check.due("a fault far behind what would throw", -159, () -> x.runCommands());
        order("then", "0", x);
        Tables.write(x, times("if 0>1;", 21) + "   ");
        check.due("without it", 19, () -> x.runCommands());
    }

    private static void textStaysAsItIs() {
        check.about("runCommands: Runs the command text, which stays as it is");
        AskedRules x = Tables.with(2);
        Tables.write(x, " if 0>1; ");
        for (int run = 0; run < 20; run++) {
            check.due("run " + run, 1, () -> x.runCommands());
            check.due("length", 9, () -> x.whole(11));
        }
        check.due("no room", 0, () -> x.runCommands());
        check.due("length", 9, () -> x.whole(11));
        x.type('!');
        check.due("with a fault", -19, () -> x.runCommands());
        check.due("length", 10, () -> x.whole(11));
    }

    private static void commandsInTheirOrder() {
        check.about("the commands are carried out in their order");
        AskedRules x = new AskedRules();
        check.due("carried out", 5, () -> Tables.run(x, "if >1;drop 0;if >2;if >3;up 2;"));
        order("then", "2 1", x);
        check.due("the merge comes first", 2, () -> Tables.run(x, "merge;if >2;"));
        order("then", "2 1 3", x);
        check.due("the merge comes last", 2, () -> Tables.run(x, "if >2;merge;"));
        order("then", "2 1", x);
    }

    private static void numberOfCommands() {
        check.about("runCommands: Returns the number of commands that were carried out, none to 25");
        good("", 0);
        good("drop 0;", 0);
        good("merge;", 1);
        good(times("merge;", 25), 25);
        good(times(" ", 5) + times("merge;", 24), 24);
    }

    private static void runsThatStop() {
        ifWithoutRoom();
        dropWithoutTheRow();
        upWithoutTheRow();
        upOfTheFirst();
        rowThatTheRunMade();
    }

    private static void ifWithoutRoom() {
        check.about("until one of them would throw an exception, which is not thrown: addRow() with 20 rows");
        AskedRules x = Tables.withRows(18);
        check.due("carried out", 2, () -> Tables.run(x, "if 0>1;if 0>1;if 0>1;drop 0;"));
        check.due("rows", 20, () -> x.whole(2));
        check.due("added", 20, () -> x.whole(10));
        check.due("what comes behind is not done", 0, () -> x.rowAt(0));
        check.due("none then", 0, () -> x.runCommands());
    }

    private static void dropWithoutTheRow() {
        check.about("until one of them would throw an exception, which is not thrown: dropRow()");
        AskedRules x = Tables.withRows(2);
        check.due("carried out", 1, () -> Tables.run(x, "drop 1;drop 1;drop 0;"));
        order("then", "0", x);
        check.due("none then", 0, () -> Tables.run(x, "drop 2;drop 0;"));
        order("then", "0", x);
    }

    private static void upWithoutTheRow() {
        check.about("until one of them would throw an exception, which is not thrown: moveUp() of no row");
        AskedRules x = Tables.withRows(3);
        check.due("carried out", 1, () -> Tables.run(x, "up 1;up 3;up 2;"));
        order("then", "1 0 2", x);
    }

    private static void upOfTheFirst() {
        check.about("until one of them would throw an exception, which is not thrown: moveUp() of the first one");
        AskedRules x = Tables.withRows(3);
        check.due("carried out", 2, () -> Tables.run(x, "up 2;up 2;up 2;up 1;"));
        order("then", "2 0 1", x);
        check.due("none then", 0, () -> Tables.run(x, "up 2;"));
    }

    private static void rowThatTheRunMade() {
        check.about("those before it stay done, and they alone count");
        AskedRules x = new AskedRules();
        check.due("carried out", 3, () -> Tables.run(x, "if >4;if >5;up 1;drop 2;drop 1;"));
        order("then", "1 0", x);
        check.due("action of the case", 5, () -> x.caseOf(0, 1));
        check.due("one state for them", 0, () -> x.undo());
        order("after undo", "", x);
    }

    private static void statesOfRuns() {
        runSavesOneState();
        runOfNothingSaves();
        runThatStopsSaves();
        faultSavesNothing();
        textIsNotSaved();
    }

    private static void runSavesOneState() {
        check.about("A run saves one state, the one from before it; its commands save none");
        AskedRules x = Tables.withRows(1);
        long before = x.digest();
        Tables.append(x, "if 0>1;if 1>1;up 2;merge;drop 0;");
        long typed = x.digest();
        check.due("carried out", 5, () -> x.runCommands());
        check.due("left", 2, () -> x.undo());
        check.due("digest", typed, () -> x.digest());
        x.clearCommands();
        check.due("digest", before, () -> x.digest());
        check.due("states before it stay", 2, Tables.undoAll(x));
    }

    private static void runOfNothingSaves() {
        check.about("runCommands: Undoable, if it has no fault: also without commands");
        AskedRules x = new AskedRules();
        check.due("empty", 0, () -> x.runCommands());
        check.due("spaces", 0, () -> Tables.run(x, "  "));
        check.due("left", 1, () -> x.undo());
        check.due("left", 0, () -> x.undo());
        check.state("no more", () -> x.undo());
    }

    private static void runThatStopsSaves() {
        check.about("runCommands: Undoable, if it has no fault: also if its first command would throw");
        AskedRules x = Tables.with(2);
        check.due("no row", 0, () -> Tables.run(x, "drop 0;"));
        check.due("left", 1, () -> x.undo());
        check.due("conditions", 1, () -> x.whole(0));
        check.due("left", 0, () -> x.undo());
        check.due("conditions", 0, () -> x.whole(0));
    }

    private static void faultSavesNothing() {
        check.about("runCommands: Undoable, if it has no fault");
        AskedRules x = new AskedRules();
        check.due("fault", -10, () -> Tables.run(x, "x"));
        check.due("fault", -21, () -> Tables.run(x, "if >1;merge"));
        check.state("nothing to undo", () -> x.undo());
        AskedRules y = Tables.withRows(3);
        check.due("fault", -12, () -> Tables.run(y, "if"));
        check.due("the last addRow() is undone", 3, () -> y.undo());
        check.due("rows", 2, () -> y.whole(2));
    }

    private static void textIsNotSaved() {
        check.about("Every method that is marked \"undoable\" saves the whole state but the command text");
        AskedRules x = new AskedRules();
        Tables.append(x, "if >1;");
        x.runCommands();
        Tables.append(x, "merge;");
        x.undo();
        check.due("length", 12, () -> x.whole(11));
        check.due("what was typed since is there", 2, () -> x.runCommands());
        x.clearCommands();
        x.undo();
        check.due("what was cleared is not", 0, () -> x.whole(11));
        check.state("typing and clearing saved nothing", () -> x.undo());
    }
}
