import java.util.ArrayList;
import java.util.List;

/**
 * What the tests of the project share: one object at a time is asked, wrong answers are printed
 * and counted, and no object is used for more calls than the document promises something about.
 */
final class Check {
    static final int MOST_CALLS = 512;

    private final String name;
    /** The sentence of the document that is being looked at, to be told with a wrong answer. */
    private String sentence = "";
    private QueryForge forge = new QueryForge();
    /** What the object has done well since it was made. */
    private final List<String> past = new ArrayList<>();
    private int calls;
    private int asked;
    private int wrong;

    Check(String name) {
        this.name = name;
    }

    /** What comes next is about this sentence of the document. */
    void says(String newSentence) {
        sentence = newSentence;
    }

    /** A new object that has done these statements well. */
    void fresh(String... statements) {
        forge = new QueryForge();
        past.clear();
        calls = 0;
        for (String statement : statements) {
            int answer = send(statement);
            if (answer < 0) {
                due("setting up: " + statement, answer, 0);
            }
        }
    }

    void act(String text, int want) {
        due("act of \"" + text + "\"", send(text), want);
    }

    /** What it answers is of no matter here. */
    void actAny(String text) {
        send(text);
    }

    /** The statement is one whose word of that number, from 0 on, is the first wrong one. */
    void wrongWord(String text, int number) {
        act(text, -1 - number);
    }

    /**
     * The statement is a fault, and whatever is asked behind it is answered as if it had not been.
     * Other objects with the same past are asked, so that this one is not used up.
     */
    void refused(String text, int fault) {
        Twins twins = new Twins(past, text);
        due("act of \"" + text + "\"", twins.fault(), fault);
        String difference = twins.difference();
        due("what is asked behind \"" + text + "\" is as before it" + difference, difference.isEmpty(), true);
    }

    void refusedWord(String text, int number) {
        refused(text, -1 - number);
    }

    void unit(int sign, boolean want) {
        due("unit(" + sign + ")", asked().unit(sign), want);
    }

    void actAlone(int want) {
        due("act()", asked().act(), want);
    }

    void value(int row, int item, int want) {
        due("value(" + row + ", " + item + ")", asked().value(row, item), want);
    }

    void isNull(int row, int item, boolean want) {
        due("isNull(" + row + ", " + item + ")", asked().isNull(row, item), want);
    }

    void rows(int want) {
        due("rows()", asked().rows(), want);
    }

    void items(int want) {
        due("items()", asked().items(), want);
    }

    void size(int table, int want) {
        due("size(" + table + ")", asked().size(table), want);
    }

    void cell(int table, int row, int column, int want) {
        String call = "cell(" + table + ", " + row + ", " + column + ")";
        due(call, asked().cell(table, row, column), want);
    }

    void bounded() {
        due("bounded()", asked().bounded(), true);
    }

    void sound() {
        due("sound()", asked().sound(), true);
    }

    /** Does a select and looks at its whole result: items between commas, rows between bars. */
    void select(String text, String want) {
        List<String> rows = split(want, '|');
        act(text, rows.size());
        result(want);
    }

    /** Looks at the whole result; of no rows the items are not looked at. */
    void result(String want) {
        List<String> rows = split(want, '|');
        rows(rows.size());
        for (int row = 0; row < rows.size(); row++) {
            List<String> items = split(rows.get(row), ',');
            if (row == 0) {
                items(items.size());
            }
            for (int item = 0; item < items.size(); item++) {
                String value = items.get(item);
                value(row, item, number(value));
                isNull(row, item, value.equals("null"));
            }
        }
    }

    /** Looks at all values of a table, a null as 0. */
    void table(int table, String want) {
        List<String> rows = split(want, '|');
        size(table, rows.size());
        for (int row = 0; row < rows.size(); row++) {
            List<String> cells = split(rows.get(row), ',');
            for (int column = 0; column < cells.size(); column++) {
                cell(table, row, column, number(cells.get(column)));
            }
        }
    }

    void due(String call, boolean got, boolean want) {
        due(call, got ? 1 : 0, want ? 1 : 0);
    }

    void due(String call, long got, long want) {
        asked++;
        if (got != want) {
            wrong++;
            String due = sentence.isEmpty() ? "" : ", as the document says: " + sentence;
            System.out.println(name + ": " + call + " answered " + got + ", due is " + want + due);
        }
    }

    /** Ends the program with exit code 1 if an answer was wrong, or none was asked for. */
    void end() {
        System.out.println(name + ": " + asked + " answers, " + wrong + " wrong");
        if (wrong != 0 || asked == 0) {
            System.exit(1);
        }
    }

    private int send(String text) {
        for (int i = 0; i < text.length(); i++) {
            if (!asked().unit(text.charAt(i))) {
                due("unit(" + (int) text.charAt(i) + ") in \"" + text + "\"", false, true);
            }
        }
        int answer = asked().act();
        if (answer >= 0) {
            past.add(text);
        }
        return answer;
    }

    private QueryForge asked() {
        calls++;
        if (calls == MOST_CALLS + 1) {
            due("a test uses an object for too many calls", calls, MOST_CALLS);
        }
        return forge;
    }

    private static int number(String value) {
        if (value.equals("null")) {
            return 0;
        }
        if (!value.startsWith("'")) {
            return Integer.parseInt(value);
        }
        int packed = 0;
        for (int i = 1; i <= 4; i++) {
            boolean isInside = i < value.length() - 1;
            packed = packed << 8 | (isInside ? value.charAt(i) : 0);
        }
        return packed;
    }

    private static List<String> split(String text, char between) {
        List<String> parts = new ArrayList<>();
        if (text.isEmpty()) {
            return parts;
        }
        int from = 0;
        for (int i = 0; i <= text.length(); i++) {
            if (i == text.length() || text.charAt(i) == between) {
                parts.add(text.substring(from, i).trim());
                from = i + 1;
            }
        }
        return parts;
    }
}
