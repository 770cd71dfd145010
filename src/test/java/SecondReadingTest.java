import java.util.List;
import java.util.Random;

/** All promises: made-up runs, compared with the second reading. The seeds are fixed. */
public final class SecondReadingTest {
    private static final int RUNS = 30000;
    private static final int MOST_CALLS = 512;
    private static final String[] STARTS = {"create t(a int,b text)", "create u(a int,c int)",
        "create v(b text,d int)"};
    private static final String[] SIGNS = {"=", "<>", "<", ">", "<=", ">="};
    private static final String[] TEXTS = {"'a'", "'ab'", "'b'", "'zzzz'", "'abcd'"};
    private static final String[] SPOILERS = {"(", ")", "[", "]", ",", ".", "-", "not", "null", "is", "1",
        "'a'", "a", "from", "where", "'abcde'", "99999999999", "!", "abcdefg", "sum", "order", "desc", "<=", "'"};
    private static final Check CHECK = new Check("SecondReadingTest");

    private final Random random;
    private final QueryForge forge = new QueryForge();
    private final SecondReading reading = new SecondReading();
    private final StringBuilder story = new StringBuilder();
    private int calls;
    /** The tables of the statement that is being made up, and how often it errs. */
    private String from;
    private int sure;

    private SecondReadingTest(long seed) {
        random = new Random(seed);
    }

    public static void main(String[] args) {
        for (int seed = 1; seed <= RUNS; seed++) {
            new SecondReadingTest(seed).run();
        }
        CHECK.end();
    }

    private void run() {
        boolean isSpare = random.nextInt(10) == 0;
        for (String start : STARTS) {
            if (!isSpare || random.nextBoolean()) {
                act(start);
            }
        }
        int inserts = random.nextInt(14);
        for (int n = 0; n < inserts; n++) {
            sure = 60;
            act(insert());
        }
        for (int n = 0; n < 40; n++) {
            sure = 4 + random.nextInt(100);
            String statement = random.nextInt(15) == 0 ? spoiled(statement()) : statement();
            if (statement.length() <= 200 && calls + statement.length() + 1 <= MOST_CALLS) {
                act(statement);
            }
        }
    }

    private void act(String statement) {
        for (char sign : statement.toCharArray()) {
            due("unit", called().unit(sign) ? 1 : 0, 1);
        }
        story.append("\n  ").append(statement);
        int want = reading.act(statement);
        due("act()", called().act(), want);
        if (want > 0 && calls + 5 <= MOST_CALLS) {
            due("bounded()", called().bounded() ? 1 : 0, 1);
            due("sound()", called().sound() ? 1 : 0, 1);
            due("rows()", called().rows(), reading.result.size());
            due("items()", called().items(), reading.items);
        }
        if (statement.startsWith("select")) {
            compareResult();
        } else if (random.nextInt(4) == 0) {
            compareTables();
        }
    }

    private void compareResult() {
        for (int row = 0; row < reading.result.size(); row++) {
            for (int item = 0; item < reading.items; item++) {
                Object want = reading.result.get(row)[item];
                if (calls + 2 <= MOST_CALLS) {
                    due("value", called().value(row, item), SecondReading.packed(want));
                    due("isNull", called().isNull(row, item) ? 1 : 0, want == null ? 1 : 0);
                }
            }
        }
    }

    private void compareTables() {
        for (int table = 0; table < reading.tables.size(); table++) {
            List<Object[]> rows = reading.tables.get(table).rows;
            if (calls < MOST_CALLS) {
                due("size", called().size(table), rows.size());
            }
            for (int row = 0; row < rows.size(); row++) {
                for (int column = 0; column < rows.get(row).length; column++) {
                    int want = SecondReading.packed(rows.get(row)[column]);
                    if (calls < MOST_CALLS) {
                        due("cell", called().cell(table, row, column), want);
                    }
                }
            }
        }
    }

    private QueryForge called() {
        calls++;
        return forge;
    }

    private void due(String call, int got, int want) {
        CHECK.due(got == want ? call : call + " behind" + story, got, want);
    }

    // Making up statements.

    private String statement() {
        int kind = random.nextInt(40);
        from = oneOf("t", "u", "v");
        if (kind == 0) {
            return "create " + oneOf("t", "u", "v", "w", "x", "y") + "(a int," + oneOf("a", "b", "c") + " text)";
        }
        if (kind < 5) {
            return insert();
        }
        if (kind < 8) {
            return "delete " + from() + where();
        }
        if (kind < 13) {
            boolean isText = !from.equals("u") && random.nextBoolean();
            String target = isText ? "b" : from.equals("v") ? "d" : oneOf("a", from.equals("u") ? "c" : "a");
            return "update " + from() + " set " + (errs() ? "x" : target) + "="
                + (isText != errs() ? text() : number(2)) + where();
        }
        return select();
    }

    private String insert() {
        String number = oneOf("0", "1", "-1", "2", "7", "2147483647", "-2147483647", "null", "1");
        String other = oneOf("0", "3", "-4", "null", "9", "1");
        String text = oneOf(oneOf(TEXTS), oneOf(TEXTS), "'a'", "null");
        String more = errs() ? oneOf(",1", ",null,'a'") : "";
        switch (random.nextInt(3)) {
            case 0: return "insert t(" + number + "," + (errs() ? other : text) + more + ")";
            case 1: return "insert u(" + number + "," + (errs() ? text : other) + more + ")";
            default: return "insert v(" + text + "," + other + more + ")";
        }
    }

    private String select() {
        boolean isPair = random.nextInt(3) == 0;
        String second = oneOf("t", "u", "v");
        from = isPair ? from + second : from;
        boolean isGrouped = random.nextInt(4) == 0;
        boolean isGathered = !isGrouped && random.nextInt(4) == 0;
        String group = place(random.nextInt(3) == 0);
        int count = 1 + random.nextInt(4);
        StringBuilder select = new StringBuilder("select ");
        for (int i = 0; i < count; i++) {
            boolean isPlace = isGrouped && i == 0;
            boolean isAggregate = (isGathered || isGrouped && i > 0) != errs();
            String expression = isPlace != errs() ? group : random.nextInt(4) == 0 ? text() : number(2);
            String aggregate = expression.contains("b") || expression.contains("'")
                ? oneOf("count", "min", "max", errs() ? "sum" : "min") : oneOf("sum", "count", "min", "max");
            select.append(i == 0 ? "" : ",");
            select.append(isAggregate ? aggregate + "(" + expression + ")" : expression);
        }
        select.append(" from ").append(from());
        select.append(where());
        if (isGrouped) {
            select.append(" group ").append(errs() ? place(random.nextBoolean()) : group);
        }
        if (random.nextInt(2) == 0) {
            select.append(" order ").append(errs() ? random.nextInt(6) : 1 + random.nextInt(count));
            select.append(oneOf("", " desc"));
        }
        return select.toString();
    }

    private String from() {
        String first = errs() ? "w" : from.substring(0, 1);
        return from.length() == 1 ? first : first + "," + from.charAt(1);
    }

    private String where() {
        return random.nextInt(5) < 2 ? "" : " where " + condition(2);
    }

    private String condition(int depth) {
        int kind = random.nextInt(depth > 0 ? 12 : 6);
        if (kind == 0) {
            return text() + oneOf(SIGNS) + (errs() ? number(0) : text());
        }
        if (kind < 5) {
            return number(depth) + oneOf(SIGNS) + (errs() ? text() : number(depth));
        }
        if (kind == 5) {
            return (random.nextBoolean() ? text() : number(depth)) + " is null";
        }
        if (kind == 6) {
            return "not " + condition(depth - 1);
        }
        if (kind == 7) {
            return "[" + condition(depth - 1) + "]";
        }
        return condition(depth - 1) + oneOf(" and ", " or ") + condition(depth - 1);
    }

    private String number(int depth) {
        int kind = random.nextInt(depth > 0 ? 18 : 12);
        if (kind < 7) {
            return place(false);
        }
        if (kind < 11) {
            return oneOf("0", "1", "2", "5", "2147483647", "1");
        }
        if (kind == 11) {
            return errs() ? text() : oneOf("null", "1", "3");
        }
        if (kind == 12) {
            return "-" + number(depth - 1);
        }
        if (kind == 13) {
            return "(" + number(depth - 1) + ")";
        }
        if (kind == 14 && errs()) {
            return "1+(".repeat(9 + random.nextInt(2)) + "1" + ")".repeat(9);
        }
        return number(depth - 1) + oneOf("+", "-", "*", "/", "+", "*") + number(depth - 1);
    }

    private String text() {
        return random.nextInt(3) > 0 && !from.equals("u") ? place(true) : oneOf(oneOf(TEXTS), "'a'", "('b')");
    }

    /** A column of the tables named; where two have it, with the table's name before the point. */
    private String place(boolean isText) {
        char table = from.charAt(random.nextInt(from.length()));
        if (errs()) {
            return oneOf("a", "b", "x", "t.a", "u.c", "v.b", "w.a");
        }
        String column = table == 't' ? (isText ? "b" : "a") : table == 'u' ? oneOf("a", "c") : isText ? "b" : "d";
        boolean isPointed = from.length() > 1 && !column.matches("[cd]") || random.nextInt(5) == 0;
        return isPointed ? table + "." + column : column;
    }

    private boolean errs() {
        return random.nextInt(sure) == 0;
    }

    /** Signs more, less, or other ones; or cut off. */
    private String spoiled(String statement) {
        int start = random.nextInt(statement.length());
        int end = Math.min(statement.length(), start + random.nextInt(4));
        if (random.nextInt(5) == 0) {
            return statement.substring(0, start);
        }
        String between = random.nextInt(4) == 0 ? "" : oneOf(SPOILERS);
        return statement.substring(0, start) + oneOf("", " ") + between + oneOf("", " ") + statement.substring(end);
    }

    private String oneOf(String... all) {
        return all[random.nextInt(all.length)];
    }
}
