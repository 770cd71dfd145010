import java.util.ArrayList;
import java.util.List;

/**
 * Two objects with the same past, of which one was also asked for a statement that is a fault. Behind
 * that both are asked the same: all that can be seen, some statements of every kind, all once more.
 */
final class Twins {
    private static final int MOST_SEEN = 3;
    /** Some are faults themselves if the past has no such tables: then they are so for both. */
    private static final String[] LATER = {"create q(x int,y text)", "insert q(7,'k')", "insert t(5,'e')",
        "insert t(6)", "update t set a=a+1 where a>0", "delete t where a=6", "select x,y from q",
        "select count(a),max(a) from t", "select a from t order 1"};

    private final int fault;
    private final String difference;

    Twins(List<String> past, String text) {
        Twin asked = new Twin(past);
        Twin spared = new Twin(past);
        fault = asked.act(text);
        // Both are asked behind the same number of calls, so that they stop at the same one.
        spared.calls = asked.calls;
        asked.tellAll();
        spared.tellAll();
        difference = firstDifference(asked.answers, spared.answers);
    }

    int fault() {
        return fault;
    }

    /** Empty if there is none. */
    String difference() {
        return difference;
    }

    private static String firstDifference(List<String> some, List<String> others) {
        for (int i = 0; i < some.size() && i < others.size(); i++) {
            if (!some.get(i).equals(others.get(i))) {
                return " (but " + some.get(i) + ", else " + others.get(i) + ")";
            }
        }
        return some.size() == others.size() && !some.isEmpty() ? "" : " (but not as many answers)";
    }

    private static final class Twin {
        private final QueryForge forge = new QueryForge();
        private final List<String> answers = new ArrayList<>();
        private int calls;

        Twin(List<String> past) {
            for (String statement : past) {
                act(statement);
            }
        }

        int act(String text) {
            for (char sign : text.toCharArray()) {
                forge.unit(sign);
            }
            calls += text.length() + 1;
            return forge.act();
        }

        void tellAll() {
            tellState();
            for (String statement : LATER) {
                if (calls + statement.length() + 1 <= Check.MOST_CALLS) {
                    answers.add("act of \"" + statement + "\" is " + act(statement));
                }
            }
            tellState();
        }

        private void tellState() {
            if (calls + 4 > Check.MOST_CALLS) {
                return;
            }
            calls += 4;
            answers.add("bounded is " + forge.bounded());
            answers.add("sound is " + forge.sound());
            int rows = forge.rows();
            int items = forge.items();
            answers.add("rows is " + rows);
            answers.add("items is " + items);
            for (int row = 0; row <= rows; row++) {
                for (int item = 0; item <= items && isSeen(row, rows); item++) {
                    tellValue(row, item);
                }
            }
            for (int table = 0; table <= 4; table++) {
                tellTable(table);
            }
        }

        private void tellValue(int row, int item) {
            if (calls + 2 <= Check.MOST_CALLS) {
                calls += 2;
                String place = "(" + row + ", " + item + ") is ";
                answers.add("value" + place + forge.value(row, item));
                answers.add("isNull" + place + forge.isNull(row, item));
            }
        }

        private void tellTable(int table) {
            if (calls >= Check.MOST_CALLS) {
                return;
            }
            calls++;
            int size = forge.size(table);
            answers.add("size(" + table + ") is " + size);
            for (int row = 0; row <= size; row++) {
                for (int column = 0; column < 4 && isSeen(row, size) && calls < Check.MOST_CALLS; column++) {
                    calls++;
                    String place = "(" + table + ", " + row + ", " + column + ") is ";
                    answers.add("cell" + place + forge.cell(table, row, column));
                }
            }
        }

        /** The first rows, the last one, and the one behind it: not all, for the calls are few. */
        private static boolean isSeen(int row, int count) {
            return row < MOST_SEEN || row >= count - 1;
        }
    }
}
