import java.util.ArrayList;
import java.util.Arrays;
import java.util.Collections;
import java.util.Comparator;
import java.util.LinkedHashMap;
import java.util.List;
import java.util.Map;
import java.util.Set;
import java.util.TreeMap;
import java.util.regex.Matcher;
import java.util.regex.Pattern;

/**
 * The document once more, written as plainly as the Java library allows and without a machine:
 * a tree for each statement that is worked out by itself. The program is compared with it.
 */
final class SecondReading {
    private static final Set<String> RESERVED = Set.of("create", "insert", "delete", "update", "set",
        "select", "from", "where", "group", "order", "desc", "int", "text", "null", "is", "and", "or",
        "not", "sum", "count", "min", "max");
    private static final Pattern WORD =
        Pattern.compile(" *([a-z]+|[0-9]+|'[^']*('|$)|<=|>=|<>|[^ ])");

    /** A table: names and types of columns, and rows of Integer, String or null. */
    static final class Table {
        final String name;
        final List<String> columns = new ArrayList<>();
        final List<String> types = new ArrayList<>();
        List<Object[]> rows = new ArrayList<>();

        Table(String name) {
            this.name = name;
        }
    }

    /** A part of a statement: a sign, a word, a place, with the parts that it is of. */
    private static final class Tree {
        final String what;
        final Object content;
        final List<Tree> parts;

        Tree(String what, Object content, Tree... parts) {
            this.what = what;
            this.content = content;
            this.parts = Arrays.asList(parts);
        }

        Tree part(int i) {
            return parts.get(i);
        }
    }

    private static final class Fault extends RuntimeException {
        private static final long serialVersionUID = 1;
        final int number;

        Fault(int number) {
            this.number = number;
        }
    }

    final List<Table> tables = new ArrayList<>();
    List<Object[]> result = new ArrayList<>();
    int items = 0;

    private List<String> words;
    private int at;
    private int open;
    private List<Table> from;

    int act(String text) {
        words = new ArrayList<>();
        Matcher matcher = WORD.matcher(text);
        while (matcher.lookingAt()) {
            words.add(matcher.group(1));
            matcher.region(matcher.end(), text.length());
        }
        at = 0;
        open = 0;
        try {
            return statement();
        } catch (Fault fault) {
            return fault.number;
        }
    }

    static int packed(Object value) {
        if (value == null) {
            return 0;
        }
        if (value instanceof Integer number) {
            return number;
        }
        String padded = value + "\0\0\0\0";
        return padded.charAt(0) << 24 | padded.charAt(1) << 16 | padded.charAt(2) << 8 | padded.charAt(3);
    }

    private int statement() {
        String kind = next();
        at++;
        switch (kind) {
            case "create": return create();
            case "insert": return insert();
            case "delete": return delete();
            case "update": return update();
            case "select": return select();
            default:
                at--;
                throw wrong();
        }
    }

    private int create() {
        Table made = new Table(name());
        need("(");
        do {
            made.columns.add(name());
            made.types.add(oneOf("int", "text"));
        } while (made.columns.size() < 4 && take(","));
        need(")");
        needEnd();
        hold(tables.stream().anyMatch(table -> table.name.equals(made.name)), -1003);
        hold(tables.size() == 4, -1006);
        hold(made.columns.stream().distinct().count() < made.columns.size(), -1003);
        tables.add(made);
        return 0;
    }

    private int insert() {
        String name = name();
        List<Object> values = new ArrayList<>();
        need("(");
        do {
            if (take("-")) {
                values.add(-number());
            } else if (take("null")) {
                values.add(null);
            } else {
                values.add(isText() ? text() : (Object) number());
            }
        } while (values.size() < 4 && take(","));
        need(")");
        needEnd();
        Table table = table(name);
        hold(values.size() != table.columns.size(), -1007);
        for (int i = 0; i < values.size(); i++) {
            hold(clash(typeOf(values.get(i)), table.types.get(i)), -1002);
        }
        hold(table.rows.size() == 24, -1006);
        table.rows.add(values.toArray());
        return 1;
    }

    private int delete() {
        String name = name();
        Tree condition = where();
        needEnd();
        from = List.of(table(name));
        checkCondition(condition);
        hold(wants(condition) > 10, -1008);
        List<Object[]> kept = new ArrayList<>();
        for (Object[] row : from.get(0).rows) {
            if (!isTrue(condition, List.<Object[]>of(row))) {
                kept.add(row);
            }
        }
        int dropped = from.get(0).rows.size() - kept.size();
        from.get(0).rows = kept;
        return dropped;
    }

    private int update() {
        String name = name();
        need("set");
        String column = name();
        need("=");
        Tree gives = expression();
        Tree condition = where();
        needEnd();
        Table table = table(name);
        from = List.of(table);
        int number = table.columns.indexOf(column);
        hold(number < 0, -1001);
        hold(clash(type(gives), table.types.get(number)), -1002);
        checkCondition(condition);
        hold(wants(gives) > 10 || wants(condition) > 10, -1008);
        List<Object[]> changed = new ArrayList<>();
        int count = 0;
        for (Object[] row : table.rows) {
            Object[] copy = row.clone();
            List<Object[]> alone = List.<Object[]>of(row);
            if (isTrue(condition, alone)) {
                copy[number] = value(gives, alone);
                count++;
            }
            changed.add(copy);
        }
        table.rows = changed;
        return count;
    }

    private int select() {
        List<Tree> list = new ArrayList<>();
        do {
            list.add(item());
        } while (list.size() < 4 && take(","));
        need("from");
        List<String> names = new ArrayList<>();
        names.add(name());
        if (take(",")) {
            names.add(name());
        }
        Tree condition = where();
        Tree group = take("group") ? place() : null;
        int order = -1;
        boolean falling = false;
        if (take("order")) {
            order = number();
            falling = take("desc");
        }
        needEnd();
        from = new ArrayList<>();
        for (String name : names) {
            from.add(table(name));
        }
        checkSelect(list, condition, group, order);
        boolean isGathered = group != null || isAggregate(list.get(0));
        List<Object[]> rows = isGathered ? gathered(list, condition, group != null) : plain(list, condition);
        if (order > 0) {
            int by = order - 1;
            Comparator<Object[]> comparator = (one, two) -> compared(one[by], two[by]);
            rows.sort(falling ? Collections.reverseOrder(comparator) : comparator);
        }
        result = rows;
        items = list.size();
        return rows.size();
    }

    private void checkSelect(List<Tree> list, Tree condition, Tree group, int order) {
        for (Tree item : list) {
            type(item);
        }
        checkCondition(condition);
        if (group != null) {
            type(group);
        }
        hold(order == 0 || order > list.size(), -1002);
        long aggregates = list.stream().filter(SecondReading::isAggregate).count();
        if (group == null) {
            hold(aggregates != 0 && aggregates != list.size(), -1002);
        } else {
            Tree first = list.get(0);
            hold(!first.what.equals("place") || !Arrays.equals(find(first), find(group)), -1002);
            hold(aggregates != list.size() - 1, -1002);
        }
        hold(wants(condition) > 10, -1008);
        for (Tree item : list) {
            hold(wants(item) > 10, -1008);
        }
    }

    private List<List<Object[]>> ways() {
        List<List<Object[]>> ways = new ArrayList<>();
        for (Object[] first : from.get(0).rows) {
            if (from.size() == 1) {
                ways.add(List.<Object[]>of(first));
            } else {
                for (Object[] second : from.get(1).rows) {
                    ways.add(List.of(first, second));
                }
            }
        }
        return ways;
    }

    private List<Object[]> plain(List<Tree> list, Tree condition) {
        List<Object[]> rows = new ArrayList<>();
        for (List<Object[]> way : ways()) {
            if (isTrue(condition, way)) {
                Object[] row = new Object[list.size()];
                for (int i = 0; i < row.length; i++) {
                    row[i] = value(list.get(i), way);
                }
                rows.add(row);
            }
        }
        return rows;
    }

    private List<Object[]> gathered(List<Tree> list, Tree condition, boolean isGrouped) {
        Map<Object, List<Object[]>> groups = new LinkedHashMap<>();
        if (!isGrouped) {
            groups.put("all", new ArrayList<>());
        }
        for (List<Object[]> way : ways()) {
            if (isTrue(condition, way)) {
                Object[] row = new Object[list.size()];
                for (int i = 0; i < row.length; i++) {
                    Tree item = list.get(i);
                    row[i] = value(isAggregate(item) ? item.part(0) : item, way);
                }
                groups.computeIfAbsent(isGrouped ? row[0] : "all", key -> new ArrayList<>()).add(row);
            }
        }
        List<Object[]> rows = new ArrayList<>();
        groups.forEach((key, members) -> {
            Object[] row = new Object[list.size()];
            for (int i = 0; i < row.length; i++) {
                row[i] = isAggregate(list.get(i)) ? aggregate(list.get(i).what, members, i) : key;
            }
            rows.add(row);
        });
        return rows;
    }

    private static Object aggregate(String what, List<Object[]> members, int item) {
        List<Object> values = new ArrayList<>();
        for (Object[] member : members) {
            if (member[item] != null) {
                values.add(member[item]);
            }
        }
        if (what.equals("count")) {
            return values.size();
        }
        if (values.isEmpty()) {
            return null;
        }
        if (what.equals("sum")) {
            long sum = 0;
            for (Object value : values) {
                sum += (Integer) value;
            }
            return fitting(sum);
        }
        values.sort(SecondReading::compared);
        return what.equals("min") ? values.get(0) : values.get(values.size() - 1);
    }

    private static boolean isAggregate(Tree item) {
        return Set.of("sum", "count", "min", "max").contains(item.what);
    }

    // Reading.

    private Tree item() {
        for (String what : List.of("sum", "count", "min", "max")) {
            if (take(what)) {
                need("(");
                Tree of = expression();
                need(")");
                return new Tree(what, null, of);
            }
        }
        return expression();
    }

    private Tree where() {
        return take("where") ? condition() : null;
    }

    private Tree condition() {
        Tree left = both();
        while (take("or")) {
            left = new Tree("or", null, left, both());
        }
        return left;
    }

    private Tree both() {
        Tree left = single();
        while (take("and")) {
            left = new Tree("and", null, left, single());
        }
        return left;
    }

    private Tree single() {
        if (next().equals("not")) {
            opened();
            Tree of = single();
            open--;
            return new Tree("not", null, of);
        }
        if (next().equals("[")) {
            opened();
            Tree inside = condition();
            need("]");
            open--;
            return inside;
        }
        Tree left = expression();
        if (take("is")) {
            need("null");
            return new Tree("is", null, left);
        }
        String sign = oneOf("=", "<>", "<", ">", "<=", ">=");
        return new Tree(sign, null, left, expression());
    }

    private Tree expression() {
        Tree left = term();
        while (next().equals("+") || next().equals("-")) {
            String sign = oneOf("+", "-");
            left = new Tree(sign, null, left, term());
        }
        return left;
    }

    private Tree term() {
        Tree left = factor();
        while (next().equals("*") || next().equals("/")) {
            String sign = oneOf("*", "/");
            left = new Tree(sign, null, left, factor());
        }
        return left;
    }

    private Tree factor() {
        if (next().equals("(")) {
            opened();
            Tree inside = expression();
            need(")");
            open--;
            return inside;
        }
        if (next().equals("-")) {
            opened();
            Tree of = factor();
            open--;
            return new Tree("negative", null, of);
        }
        if (take("null")) {
            return new Tree("value", null);
        }
        if (isText()) {
            return new Tree("value", text());
        }
        return isNumber() ? new Tree("value", number()) : place();
    }

    private Tree place() {
        String first = name();
        return take(".") ? new Tree("place", List.of(first, name())) : new Tree("place", List.of(first));
    }

    private void opened() {
        if (open == 20) {
            throw wrong();
        }
        open++;
        at++;
    }

    private String next() {
        return at < words.size() ? words.get(at) : "";
    }

    private boolean take(String word) {
        boolean found = next().equals(word);
        at += found ? 1 : 0;
        return found;
    }

    private void need(String word) {
        if (!take(word)) {
            throw wrong();
        }
    }

    private void needEnd() {
        if (at < words.size()) {
            throw wrong();
        }
    }

    private String oneOf(String... all) {
        String word = next();
        if (!Arrays.asList(all).contains(word)) {
            throw wrong();
        }
        at++;
        return word;
    }

    private String name() {
        String word = next();
        if (!word.matches("[a-z]{1,6}") || RESERVED.contains(word)) {
            throw wrong();
        }
        at++;
        return word;
    }

    private boolean isNumber() {
        return next().matches("[0-9]{1,10}") && Long.parseLong(next()) <= Integer.MAX_VALUE;
    }

    private int number() {
        if (!isNumber()) {
            throw wrong();
        }
        at++;
        return Integer.parseInt(words.get(at - 1));
    }

    private boolean isText() {
        return next().matches("'[a-z]{1,4}'");
    }

    private String text() {
        at++;
        return words.get(at - 1).replace("'", "");
    }

    private Fault wrong() {
        return new Fault(-1 - at);
    }

    // Looking for faults.

    private static void hold(boolean isFault, int number) {
        if (isFault) {
            throw new Fault(number);
        }
    }

    private Table table(String name) {
        for (Table table : tables) {
            if (table.name.equals(name)) {
                return table;
            }
        }
        throw new Fault(-1001);
    }

    private static String typeOf(Object value) {
        return value == null ? "null" : value instanceof Integer ? "int" : "text";
    }

    private static boolean clash(String one, String other) {
        return !one.equals("null") && !other.equals("null") && !one.equals(other);
    }

    /** The number of the table in the text, and that of the column. */
    private int[] find(Tree place) {
        List<?> names = (List<?>) place.content;
        Map<Integer, Integer> found = new TreeMap<>();
        for (int i = 0; i < from.size(); i++) {
            boolean isMeant = names.size() == 1 || from.get(i).name.equals(names.get(0));
            int column = from.get(i).columns.indexOf(names.get(names.size() - 1));
            if (isMeant && column >= 0) {
                found.put(i, column);
            }
        }
        hold(found.size() != 1, -1001);
        int table = found.keySet().iterator().next();
        return new int[] {table, found.get(table)};
    }

    private String type(Tree tree) {
        List<String> types = new ArrayList<>();
        for (Tree part : tree.parts) {
            types.add(type(part));
        }
        switch (tree.what) {
            case "value":
                return typeOf(tree.content);
            case "place":
                int[] place = find(tree);
                return from.get(place[0]).types.get(place[1]);
            case "min":
            case "max":
                return types.get(0);
            case "count":
                return "int";
            default:
                hold(types.contains("text"), -1002);
                return "int";
        }
    }

    private void checkCondition(Tree tree) {
        if (tree == null) {
            return;
        }
        if (tree.what.equals("and") || tree.what.equals("or") || tree.what.equals("not")) {
            tree.parts.forEach(this::checkCondition);
        } else if (tree.what.equals("is")) {
            type(tree.part(0));
        } else {
            String left = type(tree.part(0));
            String right = type(tree.part(1));
            hold(clash(left, right), -1002);
        }
    }

    private static int wants(Tree tree) {
        if (tree == null) {
            return 0;
        }
        if (tree.parts.isEmpty()) {
            return 1;
        }
        int left = wants(tree.part(0));
        return tree.parts.size() == 1 ? left : Math.max(left, wants(tree.part(1)) + 1);
    }

    // Working out.

    private static Integer fitting(long number) {
        hold(number != (int) number, -1005);
        return (int) number;
    }

    private Object value(Tree tree, List<Object[]> way) {
        if (tree.what.equals("value")) {
            return tree.content;
        }
        if (tree.what.equals("place")) {
            int[] place = find(tree);
            return way.get(place[0])[place[1]];
        }
        Object left = value(tree.part(0), way);
        if (tree.what.equals("negative")) {
            return left == null ? null : fitting(-(long) (Integer) left);
        }
        Object right = value(tree.part(1), way);
        if (left == null || right == null) {
            return null;
        }
        long one = (Integer) left;
        long two = (Integer) right;
        switch (tree.what) {
            case "+": return fitting(one + two);
            case "-": return fitting(one - two);
            case "*": return fitting(one * two);
            default:
                hold(two == 0, -1004);
                return fitting(one / two);
        }
    }

    private boolean isTrue(Tree condition, List<Object[]> way) {
        return condition == null || Boolean.TRUE.equals(truth(condition, way));
    }

    /** True, false, or null for unknown. */
    private Boolean truth(Tree tree, List<Object[]> way) {
        switch (tree.what) {
            case "not": {
                Boolean of = truth(tree.part(0), way);
                return of == null ? null : Boolean.valueOf(!of);
            }
            case "and":
            case "or": {
                Boolean decides = tree.what.equals("or");
                Boolean left = truth(tree.part(0), way);
                Boolean right = truth(tree.part(1), way);
                if (decides.equals(left) || decides.equals(right)) {
                    return decides;
                }
                return left == null || right == null ? null : Boolean.valueOf(!decides);
            }
            case "is":
                return value(tree.part(0), way) == null;
            default: {
                Object left = value(tree.part(0), way);
                Object right = value(tree.part(1), way);
                return left == null || right == null ? null : Boolean.valueOf(holds(tree.what, compared(left, right)));
            }
        }
    }

    private static boolean holds(String sign, int order) {
        boolean isEqual = order == 0;
        switch (sign) {
            case "=": return isEqual;
            case "<>": return !isEqual;
            default: return sign.endsWith("=") && isEqual || (sign.charAt(0) == '<' ? order < 0 : order > 0);
        }
    }

    private static int compared(Object one, Object two) {
        if (one == null || two == null) {
            return Boolean.compare(one != null, two != null);
        }
        if (one instanceof Integer number) {
            return number.compareTo((Integer) two);
        }
        return one.toString().compareTo(two.toString());
    }
}
