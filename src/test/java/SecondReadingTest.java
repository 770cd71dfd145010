import java.util.List;
import java.util.Random;

/** All promises: made-up runs, compared with the second reading. The seed is fixed. */
public final class SecondReadingTest {
    private static final int RUNS = 20000;
    private static final int MOST_CALLS = 512;
    private static final String[] COLUMNS = {"a", "b", "c", "t.a", "u.a", "v.b", "t.c", "x", "u.b", "b.a"};
    private static final String[] SIGNS = {"=", "<>", "<", ">", "<=", ">="};
    private static final String[] TEXTS = {"'a'", "'ab'", "'b'", "'zzzz'", "'abcd'"};
    private static final String[] SPOILERS = {"(", ")", "[", "]", ",", ".", "-", "not", "null", "is", "1",
        "'a'", "a", "from", "where", "'abcde'", "99999999999", "!", "abcdefg", "sum", "order", "desc", "<=", "'"};
    private static final Check CHECK = new Check("SecondReadingTest");

    private final Random random;
    private final QueryForge forge = new QueryForge();
    private final SecondReading reading = new SecondReading();
    private final StringBuilder story = new StringBuilder();
    private int calls;

    private SecondReadingTest(long seed) {
        random = new Random(seed);
    }

    public static void main(String[] args) {
        for (int seed = 1; seed <= RUNS; seed++) {
            new SecondReadingTest(seed).run();
        }
        CHECK.end();
    }

    private void run() {
        String[] starts = {"create t(a int,b text)", "create u(a int,c int)", "create v(b text,c int,d int)"};
        for (String start : starts) {
            if (random.nextInt(6) > 0) {
                act(start);
            }
        }
        while (calls < 300) {
            String statement = statement();
            if (random.nextInt(12) == 0) {
                statement = spoiled(statement);
            }
            if (statement.length() <= 200 && calls + statement.length() < MOST_CALLS - 10) {
                act(statement);
                compareSome();
            } else {
                calls += 10;
            }
        }
        compareAll();
    }

    private void act(String statement) {
        for (char sign : statement.toCharArray()) {
            forge.unit(sign);
        }
        calls += statement.length() + 1;
        story.append("\n  ").append(statement);
        int want = reading.act(statement);
        due("act()", forge.act(), want);
    }

    private void compareSome() {
        calls += 5;
        due("bounded()", forge.bounded() ? 1 : 0, 1);
        due("sound()", forge.sound() ? 1 : 0, 1);
        due("rows()", forge.rows(), reading.result.size());
        due("items()", forge.items(), reading.items);
        int table = random.nextInt(5);
        due("size", forge.size(table), table < reading.tables.size() ? reading.tables.get(table).rows.size() : -1);
    }

    /** More calls than are promised for one object: the answers here stay the same all the same. */
    private void compareAll() {
        for (int row = 0; row < reading.result.size(); row++) {
            for (int item = 0; item < reading.items; item++) {
                Object want = reading.result.get(row)[item];
                due("value", forge.value(row, item), SecondReading.packed(want));
                due("isNull", forge.isNull(row, item) ? 1 : 0, want == null ? 1 : 0);
            }
        }
        for (int table = 0; table < reading.tables.size(); table++) {
            List<Object[]> rows = reading.tables.get(table).rows;
            due("size", forge.size(table), rows.size());
            for (int row = 0; row < rows.size(); row++) {
                for (int column = 0; column < rows.get(row).length; column++) {
                    int want = SecondReading.packed(rows.get(row)[column]);
                    due("cell", forge.cell(table, row, column), want);
                }
            }
        }
    }

    private void due(String call, int got, int want) {
        CHECK.due(got == want ? call : call + " behind" + story, got, want);
    }

    // Making up statements.

    private String statement() {
        int kind = random.nextInt(20);
        if (kind == 0) {
            return "create " + oneOf("t", "u", "v", "w", "x", "y") + "(a int," + oneOf("a", "b", "c") + " text)";
        }
        if (kind < 7) {
            return insert();
        }
        if (kind < 9) {
            return "delete " + table() + where();
        }
        if (kind < 12) {
            return "update " + table() + " set " + oneOf("a", "a", "b", "c", "x") + "=" + expression(2) + where();
        }
        return select();
    }

    private String insert() {
        String text = oneOf(TEXTS);
        String number = oneOf("0", "1", "-1", "2", "7", "2147483647", "-2147483647", "null", "null");
        String other = oneOf("0", "3", "-4", "null", "9");
        switch (random.nextInt(4)) {
            case 0: return "insert t(" + number + "," + oneOf(text, text, "null", "1") + ")";
            case 1: return "insert u(" + number + "," + other + ")";
            case 2: return "insert v(" + oneOf(text, "null") + "," + number + "," + other + ")";
            default: return "insert " + table() + "(" + other + "," + oneOf(text, number) + ")";
        }
    }

    private String select() {
        StringBuilder select = new StringBuilder("select ");
        String group = random.nextInt(4) == 0 ? oneOf("a", "b", "c", "t.a", "u.a", "u.c") : "";
        boolean isGathered = group.isEmpty() && random.nextInt(4) == 0;
        int count = 1 + random.nextInt(4);
        for (int i = 0; i < count; i++) {
            boolean isOdd = random.nextInt(25) == 0;
            boolean isAggregate = (isGathered || !group.isEmpty() && i > 0) != isOdd;
            String expression = !group.isEmpty() && i == 0 && !isOdd ? group : expression(2);
            select.append(i == 0 ? "" : ",");
            select.append(isAggregate ? oneOf("sum", "count", "min", "max") + "(" + expression + ")" : expression);
        }
        select.append(" from ").append(table());
        if (random.nextInt(3) == 0) {
            select.append(",").append(table());
        }
        select.append(where());
        if (!group.isEmpty()) {
            select.append(" group ").append(random.nextInt(9) == 0 ? oneOf(COLUMNS) : group);
        }
        if (random.nextInt(2) == 0) {
            select.append(" order ").append(random.nextInt(count + 1) + random.nextInt(2));
            select.append(oneOf("", " desc"));
        }
        return select.toString();
    }

    private String where() {
        return random.nextInt(2) == 0 ? "" : " where " + condition(2);
    }

    private String condition(int depth) {
        int kind = random.nextInt(depth > 0 ? 12 : 6);
        if (kind < 5) {
            return expression(depth) + oneOf(SIGNS) + expression(depth);
        }
        if (kind == 5) {
            return expression(depth) + " is null";
        }
        if (kind == 6) {
            return "not " + condition(depth - 1);
        }
        if (kind == 7) {
            return "[" + condition(depth - 1) + "]";
        }
        return condition(depth - 1) + oneOf(" and ", " or ") + condition(depth - 1);
    }

    private String expression(int depth) {
        int kind = random.nextInt(depth > 0 ? 16 : 11);
        if (kind < 6) {
            return oneOf("a", "a", "a", "c", oneOf(COLUMNS));
        }
        if (kind < 9) {
            return oneOf("0", "1", "2", "5", "2147483647");
        }
        if (kind == 9) {
            return random.nextInt(3) == 0 ? oneOf(TEXTS) : "b";
        }
        if (kind == 10) {
            return oneOf("null", "1", "c");
        }
        if (kind == 11) {
            return "-" + expression(depth - 1);
        }
        if (kind == 12) {
            return "(" + expression(depth - 1) + ")";
        }
        if (kind == 13 && random.nextInt(20) == 0) {
            return "1+(".repeat(9 + random.nextInt(2)) + "a" + ")".repeat(9);
        }
        return expression(depth - 1) + oneOf("+", "-", "*", "/") + expression(depth - 1);
    }

    /** One word more, less, or another one; or cut off. */
    private String spoiled(String statement) {
        int from = random.nextInt(statement.length());
        int to = Math.min(statement.length(), from + random.nextInt(4));
        if (random.nextInt(5) == 0) {
            return statement.substring(0, from);
        }
        String between = random.nextInt(4) == 0 ? "" : oneOf(SPOILERS);
        return statement.substring(0, from) + oneOf("", " ") + between + oneOf("", " ") + statement.substring(to);
    }

    private String table() {
        return oneOf("t", "t", "t", "u", "u", "v", random.nextInt(10) == 0 ? "w" : "t");
    }

    private String oneOf(String... all) {
        return all[random.nextInt(all.length)];
    }
}
