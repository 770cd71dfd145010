/**
 * Small tables that are asked by texts: a text is split into words, read, checked, turned into
 * words of a small machine, and done by that machine. README.md publishes the machine's words.
 *
 * Everything that a statement changes is changed by the last words of its program, behind all
 * words that can find a fault: so a fault leaves all as it was.
 */
public final class QueryForge {
    public static final int BAD = -1;

    private static final int FIRST_SIGN = 32;
    private static final int LAST_SIGN = 126;
    private static final int MOST_SIGNS = 200;
    private static final int MOST_TABLES = 4;
    /** Also the most values of an insert, and the most items of a select. */
    private static final int MOST_COLUMNS = 4;
    private static final int MOST_ROWS = 24;
    private static final int MOST_RESULTS = MOST_ROWS * MOST_ROWS;
    private static final int MOST_OPEN = 20;
    private static final int MOST_VALUES = 10;
    private static final int GREATEST = 2147483647;
    private static final int LEAST = -GREATEST - 1;
    /** A null, where values are held: below all numbers, as order asks for, and below all sums. */
    private static final long MISSING = -1L << 62;
    private static final int NONE = -1;

    private static final int FAULT_NAME = -1001;
    private static final int FAULT_TYPE = -1002;
    private static final int FAULT_TAKEN = -1003;
    private static final int FAULT_ZERO = -1004;
    private static final int FAULT_OVERFLOW = -1005;
    private static final int FAULT_FULL = -1006;
    private static final int FAULT_COUNT = -1007;
    private static final int FAULT_DEEP = -1008;

    private static final int NO_TYPE = 0;
    private static final int NUMBER_TYPE = 1;
    private static final int TEXT_TYPE = 2;

    private final char[] signs;
    private int signCount;
    private final Words words;
    private final Tables tables;
    private final Reader reader;
    private final Checker checker;
    private final Maker maker;
    private final Machine machine;

    public QueryForge() {
        signs = new char[MOST_SIGNS];
        signCount = 0;
        words = new Words();
        tables = new Tables();
        Statement statement = new Statement();
        Code program = new Code();
        reader = new Reader(words, statement);
        checker = new Checker(words, statement, tables);
        maker = new Maker(statement, program);
        machine = new Machine(program, tables);
    }

    public boolean unit(int u) {
        if (u < FIRST_SIGN || u > LAST_SIGN || signCount >= MOST_SIGNS) {
            return false;
        }
        signs[signCount] = (char) u;
        signCount++;
        return true;
    }

    public int act() {
        words.split(signs, signCount);
        signCount = 0;
        int fault = reader.read();
        if (fault == 0) {
            fault = checker.check();
        }
        if (fault != 0) {
            return fault;
        }
        maker.make();
        return machine.run(words.wordCount());
    }

    public int rows() {
        return machine.result().rowCount();
    }

    public int items() {
        return machine.result().itemCount();
    }

    public int value(int row, int item) {
        Result result = machine.result();
        return result.has(row, item) ? shown(result.heldAt(row, item)) : BAD;
    }

    public boolean isNull(int row, int item) {
        Result result = machine.result();
        return result.has(row, item) && result.heldAt(row, item) == MISSING;
    }

    public int size(int table) {
        return tables.has(table) ? tables.tableAt(table).rowCount() : BAD;
    }

    public int cell(int table, int row, int column) {
        if (!tables.has(table)) {
            return BAD;
        }
        Table asked = tables.tableAt(table);
        return asked.has(row, column) ? shown(asked.heldAt(row, column)) : BAD;
    }

    public boolean bounded() {
        return machine.keptBound();
    }

    public boolean sound() {
        return machine.knewAll();
    }

    private static int shown(long held) {
        return held == MISSING ? 0 : (int) held;
    }

    /** The words of a text. A sign of its own has its character as kind. */
    private static final class Words {
        static final int END = 0;
        static final int WRONG = 1;
        static final int A_NAME = 2;
        static final int A_NUMBER = 3;
        static final int A_TEXT = 4;
        static final int AT_MOST = 5;
        static final int AT_LEAST = 6;
        static final int UNEQUAL = 7;

        static final int CREATE = 200;
        static final int INSERT = 201;
        static final int DELETE = 202;
        static final int UPDATE = 203;
        static final int SET = 204;
        static final int SELECT = 205;
        static final int FROM = 206;
        static final int WHERE = 207;
        static final int GROUP = 208;
        static final int ORDER = 209;
        static final int DESC = 210;
        static final int INT = 211;
        static final int TEXT = 212;
        static final int NULL = 213;
        static final int IS = 214;
        static final int AND = 215;
        static final int OR = 216;
        static final int NOT = 217;
        static final int SUM = 218;
        static final int COUNT = 219;
        static final int MIN = 220;
        static final int MAX = 221;

        /** In the order of the kinds from CREATE on, each filled up to RESERVED_STEP signs. */
        private static final String RESERVED =
            "create insert delete update set    select from   where  group  order  desc   int    text   null   is     and    or     not    sum    count  min    max    ";
        private static final int RESERVED_COUNT = 22;
        private static final int RESERVED_STEP = 7;
        private static final String SIGNS = "()[],.+-*/=<>";
        private static final int MOST_NAME_LETTERS = 6;
        private static final int MOST_TEXT_LETTERS = 4;
        private static final int MOST_DIGITS = 10;

        private final int[] kinds;
        private final int[] contents;
        private int count;

        Words() {
            kinds = new int[MOST_SIGNS];
            contents = new int[MOST_SIGNS];
            count = 0;
        }

        void split(char[] text, int length) {
            count = 0;
            int at = 0;
            for (int n = 0; n < MOST_SIGNS && at < length; n++) {
                at = text[at] == ' ' ? at + 1 : addWord(text, length, at);
            }
        }

        int wordCount() {
            return count;
        }

        int kindAt(int number) {
            return number >= 0 && number < count ? kinds[number] : END;
        }

        /** A number, a text as a number, or a name as a number. */
        int contentAt(int number) {
            return number >= 0 && number < count ? contents[number] : 0;
        }

        /** Answers where the word ends that begins there. */
        private int addWord(char[] text, int length, int from) {
            char sign = text[from];
            if (isLetter(sign)) {
                return addLetters(text, length, from);
            }
            if (isDigit(sign)) {
                return addDigits(text, length, from);
            }
            return sign == '\'' ? addText(text, length, from) : addSign(text, length, from);
        }

        private int addLetters(char[] text, int length, int from) {
            int to = from;
            int name = 0;
            while (to < length && isLetter(text[to])) {
                // Five bits a letter: no two names of at most six letters have one number.
                name = name * 32 + (text[to] - 'a' + 1);
                to++;
            }
            boolean tooLong = to - from > MOST_NAME_LETTERS;
            add(tooLong ? WRONG : kindOfLetters(text, from, to), name);
            return to;
        }

        private int addDigits(char[] text, int length, int from) {
            int to = from;
            long number = 0;
            while (to < length && isDigit(text[to])) {
                // Digits past the tenth make the word wrong by themselves, and could wrap round.
                if (to - from < MOST_DIGITS) {
                    number = number * 10 + (text[to] - '0');
                }
                to++;
            }
            boolean right = to - from <= MOST_DIGITS && number <= GREATEST;
            add(right ? A_NUMBER : WRONG, right ? (int) number : 0);
            return to;
        }

        private int addText(char[] text, int length, int from) {
            int to = from + 1;
            int packed = 0;
            boolean right = true;
            while (to < length && text[to] != '\'') {
                right = right && isLetter(text[to]);
                packed = packed * 256 + text[to];
                to++;
            }
            int letters = to - from - 1;
            right = right && to < length && letters >= 1 && letters <= MOST_TEXT_LETTERS;
            for (int n = letters; n < MOST_TEXT_LETTERS; n++) {
                packed = packed * 256;
            }
            add(right ? A_TEXT : WRONG, packed);
            return to < length ? to + 1 : to;
        }

        private int addSign(char[] text, int length, int from) {
            char sign = text[from];
            int pair = from + 1 < length ? kindOfPair(sign, text[from + 1]) : WRONG;
            if (pair != WRONG) {
                add(pair, 0);
                return from + 2;
            }
            add(SIGNS.indexOf(sign) >= 0 ? sign : WRONG, 0);
            return from + 1;
        }

        private void add(int kind, int content) {
            if (count < MOST_SIGNS) {
                kinds[count] = kind;
                contents[count] = content;
                count++;
            }
        }

        private static int kindOfLetters(char[] text, int from, int to) {
            for (int n = 0; n < RESERVED_COUNT; n++) {
                if (isReserved(text, from, to, n * RESERVED_STEP)) {
                    return CREATE + n;
                }
            }
            return A_NAME;
        }

        /** At most six letters: the blank behind the reserved word is looked at too. */
        private static boolean isReserved(char[] text, int from, int to, int start) {
            for (int n = 0; n < to - from; n++) {
                if (RESERVED.charAt(start + n) != text[from + n]) {
                    return false;
                }
            }
            return RESERVED.charAt(start + to - from) == ' ';
        }

        private static int kindOfPair(char first, char second) {
            if (first == '<' && second == '>') {
                return UNEQUAL;
            }
            if (second != '=') {
                return WRONG;
            }
            return first == '<' ? AT_MOST : first == '>' ? AT_LEAST : WRONG;
        }

        private static boolean isLetter(char sign) {
            return sign >= 'a' && sign <= 'z';
        }

        private static boolean isDigit(char sign) {
            return sign >= '0' && sign <= '9';
        }
    }

    /** Words of the machine, each with an argument. */
    private static final class Code {
        /** A draft has no more words than its text; a program has some twenty more. */
        private static final int ROOM = MOST_SIGNS + 56;

        private final int[] operations;
        private final int[] arguments;
        private int length;

        Code() {
            operations = new int[ROOM];
            arguments = new int[ROOM];
            length = 0;
        }

        void clear() {
            length = 0;
        }

        void add(int operation, int argument) {
            if (length < ROOM) {
                operations[length] = operation;
                arguments[length] = argument;
                length++;
            }
        }

        void change(int at, int operation, int argument) {
            if (at >= 0 && at < length) {
                operations[at] = operation;
                arguments[at] = argument;
            }
        }

        int end() {
            return length;
        }

        int operationAt(int at) {
            return at >= 0 && at < length ? operations[at] : Machine.END;
        }

        int argumentAt(int at) {
            return at >= 0 && at < length ? arguments[at] : 0;
        }
    }

    /** What was read. Of an update, the expression is the one item. */
    private static final class Statement {
        static final int MOST_FROM = 2;

        /** Items, then the condition, as words behind their operands; places are not yet found. */
        final Code draft;
        final int[] tableNames;
        final int[] tableNumbers;
        /** Of a create. */
        final int[] names;
        /** Of the columns of a create, or of the values of an insert. */
        final int[] types;
        final int[] values;
        /** The kind of the aggregate's word, or NONE. */
        final int[] aggregates;
        /** Where the items end in the draft. */
        final int[] itemEnds;
        int kind;
        int tableCount;
        int partCount;
        int targetName;
        int targetColumn;
        int conditionStart;
        /** The number of the word that the place begins with. */
        int groupWord;
        int orderNumber;
        boolean descending;

        Statement() {
            draft = new Code();
            tableNames = new int[MOST_FROM];
            tableNumbers = new int[MOST_FROM];
            names = new int[MOST_COLUMNS];
            types = new int[MOST_COLUMNS];
            values = new int[MOST_COLUMNS];
            aggregates = new int[MOST_COLUMNS];
            itemEnds = new int[MOST_COLUMNS];
            clear(Words.END);
        }

        void clear(int newKind) {
            draft.clear();
            kind = newKind;
            tableCount = 0;
            partCount = 0;
            targetName = 0;
            targetColumn = NONE;
            conditionStart = NONE;
            groupWord = NONE;
            orderNumber = NONE;
            descending = false;
        }

        void addTable(int name) {
            if (tableCount < MOST_FROM) {
                tableNames[tableCount] = name;
                tableNumbers[tableCount] = 0;
                tableCount++;
            }
        }

        void addColumn(int name, int type) {
            if (partCount < MOST_COLUMNS) {
                names[partCount] = name;
                types[partCount] = type;
                partCount++;
            }
        }

        void addValue(int value, int type) {
            if (partCount < MOST_COLUMNS) {
                values[partCount] = value;
                types[partCount] = type;
                partCount++;
            }
        }

        void addItem(int aggregate) {
            if (partCount < MOST_COLUMNS) {
                aggregates[partCount] = aggregate;
                itemEnds[partCount] = draft.end();
                partCount++;
            }
        }

        int itemStart(int item) {
            return item >= 1 && item < partCount ? itemEnds[item - 1] : 0;
        }

        boolean isGrouped() {
            return groupWord != NONE;
        }

        int aggregateCount() {
            int count = 0;
            for (int i = 0; i < partCount; i++) {
                if (aggregates[i] != NONE) {
                    count++;
                }
            }
            return count;
        }
    }

    /** Reads words as a statement. What answers false has stopped at the wrong word. */
    private static final class Reader {
        private final Words words;
        private final Statement statement;
        private int at;

        Reader(Words words, Statement statement) {
            this.words = words;
            this.statement = statement;
            at = 0;
        }

        /** Answers 0, or the fault of the first wrong word. */
        int read() {
            at = 0;
            statement.clear(words.kindAt(0));
            boolean right = false;
            switch (statement.kind) {
                case Words.CREATE:
                case Words.INSERT:
                    at = 1;
                    right = readTable() && take('(') && readParts() && take(')');
                    break;
                case Words.DELETE:
                    at = 1;
                    right = readTable() && readWhere();
                    break;
                case Words.UPDATE:
                    at = 1;
                    right = readTable() && take(Words.SET) && readAssignment() && readWhere();
                    break;
                case Words.SELECT:
                    at = 1;
                    right = readParts() && take(Words.FROM) && readTable()
                        && (!take(',') || readTable())
                        && readWhere() && readGroup() && readOrder();
                    break;
                default:
                    break;
            }
            right = right && isNext(Words.END);
            return right ? 0 : -1 - at;
        }

        private boolean readTable() {
            statement.addTable(words.contentAt(at));
            return take(Words.A_NAME);
        }

        private boolean readParts() {
            boolean more = true;
            for (int n = 1; n <= MOST_COLUMNS && more; n++) {
                boolean right = statement.kind == Words.CREATE ? readColumn()
                    : statement.kind == Words.INSERT ? readValue() : readItem();
                if (!right) {
                    return false;
                }
                more = n < MOST_COLUMNS && take(',');
            }
            return true;
        }

        private boolean readColumn() {
            int name = words.contentAt(at);
            if (!take(Words.A_NAME)) {
                return false;
            }
            statement.addColumn(name, isNext(Words.INT) ? NUMBER_TYPE : TEXT_TYPE);
            return take(Words.INT) || take(Words.TEXT);
        }

        private boolean readValue() {
            boolean negative = take('-');
            int content = words.contentAt(at);
            if (take(Words.A_NUMBER)) {
                statement.addValue(negative ? -content : content, NUMBER_TYPE);
                return true;
            }
            if (negative) {
                return false;
            }
            statement.addValue(content, isNext(Words.A_TEXT) ? TEXT_TYPE : NO_TYPE);
            return take(Words.A_TEXT) || take(Words.NULL);
        }

        private boolean readItem() {
            int kind = words.kindAt(at);
            boolean isAggregate = kind == Words.SUM || kind == Words.COUNT
                || kind == Words.MIN || kind == Words.MAX;
            if (isAggregate) {
                at++;
            }
            boolean right = isAggregate ? take('(') && expression(0) && take(')') : expression(0);
            statement.addItem(isAggregate ? kind : NONE);
            return right;
        }

        private boolean readAssignment() {
            statement.targetName = words.contentAt(at);
            boolean right = take(Words.A_NAME) && take('=') && expression(0);
            statement.addItem(NONE);
            return right;
        }

        private boolean readWhere() {
            if (!take(Words.WHERE)) {
                return true;
            }
            statement.conditionStart = statement.draft.end();
            return condition(0);
        }

        private boolean readGroup() {
            if (!take(Words.GROUP)) {
                return true;
            }
            statement.groupWord = at;
            return readPlace();
        }

        private boolean readOrder() {
            if (!take(Words.ORDER)) {
                return true;
            }
            statement.orderNumber = words.contentAt(at);
            if (!take(Words.A_NUMBER)) {
                return false;
            }
            statement.descending = take(Words.DESC);
            return true;
        }

        private boolean readPlace() {
            return take(Words.A_NAME) && (!take('.') || take(Words.A_NAME));
        }

        private boolean condition(int open) {
            boolean right = both(open);
            for (int n = 0; n < MOST_SIGNS && right && take(Words.OR); n++) {
                right = both(open);
                statement.draft.add(Machine.OR, 0);
            }
            return right;
        }

        private boolean both(int open) {
            boolean right = single(open);
            for (int n = 0; n < MOST_SIGNS && right && take(Words.AND); n++) {
                right = single(open);
                statement.draft.add(Machine.AND, 0);
            }
            return right;
        }

        private boolean single(int open) {
            if (open >= MOST_OPEN && (isNext(Words.NOT) || isNext('['))) {
                return false;
            }
            if (take(Words.NOT)) {
                boolean right = single(open + 1);
                statement.draft.add(Machine.NOT, 0);
                return right;
            }
            if (take('[')) {
                return condition(open + 1) && take(']');
            }
            if (!expression(open)) {
                return false;
            }
            if (take(Words.IS)) {
                statement.draft.add(Machine.IS_NULL, 0);
                return take(Words.NULL);
            }
            int comparison = comparisonOf(words.kindAt(at));
            if (comparison == NONE) {
                return false;
            }
            at++;
            boolean right = expression(open);
            statement.draft.add(comparison, 0);
            return right;
        }

        private boolean expression(int open) {
            boolean right = term(open);
            for (int n = 0; n < MOST_SIGNS && right && (isNext('+') || isNext('-')); n++) {
                int operation = isNext('+') ? Machine.ADD : Machine.SUBTRACT;
                at++;
                right = term(open);
                statement.draft.add(operation, 0);
            }
            return right;
        }

        private boolean term(int open) {
            boolean right = factor(open);
            for (int n = 0; n < MOST_SIGNS && right && (isNext('*') || isNext('/')); n++) {
                int operation = isNext('*') ? Machine.MULTIPLY : Machine.DIVIDE;
                at++;
                right = factor(open);
                statement.draft.add(operation, 0);
            }
            return right;
        }

        private boolean factor(int open) {
            int first = at;
            int content = words.contentAt(at);
            if (open >= MOST_OPEN && (isNext('(') || isNext('-'))) {
                return false;
            }
            if (take('(')) {
                return expression(open + 1) && take(')');
            }
            if (take('-')) {
                boolean right = factor(open + 1);
                statement.draft.add(Machine.NEGATE, 0);
                return right;
            }
            if (take(Words.A_NUMBER)) {
                statement.draft.add(Machine.NUMBER, content);
                return true;
            }
            if (take(Words.A_TEXT)) {
                statement.draft.add(Machine.TEXT, content);
                return true;
            }
            if (take(Words.NULL)) {
                statement.draft.add(Machine.NOTHING, 0);
                return true;
            }
            statement.draft.add(Machine.PLACE, first);
            return readPlace();
        }

        private boolean take(int kind) {
            if (words.kindAt(at) != kind) {
                return false;
            }
            at++;
            return true;
        }

        private boolean isNext(int kind) {
            return words.kindAt(at) == kind;
        }

        private static int comparisonOf(int kind) {
            switch (kind) {
                case '=':
                    return Machine.EQUAL;
                case '<':
                    return Machine.LESS;
                case '>':
                    return Machine.GREATER;
                case Words.UNEQUAL:
                    return Machine.UNEQUAL;
                case Words.AT_MOST:
                    return Machine.AT_MOST;
                case Words.AT_LEAST:
                    return Machine.AT_LEAST;
                default:
                    return NONE;
            }
        }
    }

    /** One table; behind its rows there is room for the row that comes next. */
    private static final class Table {
        private final int[] columnNames;
        private final int[] columnTypes;
        private final long[] values;
        private final boolean[] marked;
        private final long[] newValues;
        private int name;
        private int columns;
        private int rows;

        Table() {
            columnNames = new int[MOST_COLUMNS];
            columnTypes = new int[MOST_COLUMNS];
            values = new long[MOST_ROWS * MOST_COLUMNS];
            marked = new boolean[MOST_ROWS];
            newValues = new long[MOST_ROWS];
            name = 0;
            columns = 0;
            rows = 0;
        }

        int ownName() {
            return name;
        }

        void setName(int newName) {
            name = newName;
        }

        int columnCount() {
            return columns;
        }

        int rowCount() {
            return rows;
        }

        boolean isFull() {
            return rows >= MOST_ROWS;
        }

        boolean has(int row, int column) {
            return row >= 0 && row < rows && column >= 0 && column < columns;
        }

        long heldAt(int row, int column) {
            return has(row, column) ? values[row * MOST_COLUMNS + column] : MISSING;
        }

        int typeOf(int column) {
            return column >= 0 && column < columns ? columnTypes[column] : NO_TYPE;
        }

        int findColumn(int wanted) {
            for (int i = 0; i < columns; i++) {
                if (columnNames[i] == wanted) {
                    return i;
                }
            }
            return NONE;
        }

        void addColumn(int columnName, int type) {
            if (columns < MOST_COLUMNS) {
                columnNames[columns] = columnName;
                columnTypes[columns] = type;
                columns++;
            }
        }

        void putNext(int column, long value) {
            if (rows < MOST_ROWS && column >= 0 && column < columns) {
                values[rows * MOST_COLUMNS + column] = value;
            }
        }

        void append() {
            if (rows < MOST_ROWS) {
                rows++;
            }
        }

        void unmark() {
            for (int row = 0; row < MOST_ROWS; row++) {
                marked[row] = false;
            }
        }

        void mark(int row, long newValue) {
            if (row >= 0 && row < rows) {
                marked[row] = true;
                newValues[row] = newValue;
            }
        }

        /** Answers how many rows there were. */
        int dropMarked() {
            int kept = 0;
            for (int row = 0; row < rows; row++) {
                if (!marked[row]) {
                    System.arraycopy(values, row * MOST_COLUMNS, values, kept * MOST_COLUMNS, columns);
                    kept++;
                }
            }
            int dropped = rows - kept;
            rows = kept;
            return dropped;
        }

        /** Answers how many rows there are. */
        int changeMarked(int column) {
            int changed = 0;
            for (int row = 0; row < rows && column >= 0 && column < columns; row++) {
                if (marked[row]) {
                    values[row * MOST_COLUMNS + column] = newValues[row];
                    changed++;
                }
            }
            return changed;
        }
    }

    /** All tables in the order of making; behind them there is room for the one that comes next. */
    private static final class Tables {
        private final Table[] all;
        private int count;

        Tables() {
            all = new Table[MOST_TABLES];
            for (int i = 0; i < MOST_TABLES; i++) {
                all[i] = new Table();
            }
            count = 0;
        }

        boolean has(int table) {
            return table >= 0 && table < count;
        }

        Table tableAt(int table) {
            return all[table >= 0 && table < MOST_TABLES ? table : 0];
        }

        int find(int name) {
            for (int i = 0; i < count; i++) {
                if (all[i].ownName() == name) {
                    return i;
                }
            }
            return NONE;
        }

        boolean isFull() {
            return count >= MOST_TABLES;
        }

        void addNextColumn(int name, int type) {
            if (count < MOST_TABLES) {
                all[count].addColumn(name, type);
            }
        }

        void append(int name) {
            if (count < MOST_TABLES) {
                all[count].setName(name);
                count++;
            }
        }
    }

    /** Looks for faults of names, types and counts, and turns places of the draft into loads. */
    private static final class Checker {
        private final Words words;
        private final Statement statement;
        private final Tables tables;
        /** The types of the values that the machine will hold at a word, the last one on top. */
        private final int[] types;
        private int height;
        private int greatestHeight;

        Checker(Words words, Statement statement, Tables tables) {
            this.words = words;
            this.statement = statement;
            this.tables = tables;
            types = new int[MOST_SIGNS];
            height = 0;
            greatestHeight = 0;
        }

        int check() {
            greatestHeight = 0;
            if (statement.kind == Words.CREATE) {
                return checkCreate();
            }
            for (int i = 0; i < statement.tableCount; i++) {
                int found = tables.find(statement.tableNames[i]);
                if (found == NONE) {
                    return FAULT_NAME;
                }
                statement.tableNumbers[i] = found;
            }
            if (statement.kind == Words.INSERT) {
                return checkInsert();
            }
            int fault = statement.kind == Words.SELECT ? checkItems()
                : statement.kind == Words.UPDATE ? checkAssignment() : 0;
            if (fault == 0 && statement.conditionStart != NONE) {
                fault = checkWords(statement.conditionStart, statement.draft.end());
            }
            if (fault == 0 && statement.kind == Words.SELECT) {
                fault = checkTail();
            }
            return fault == 0 && greatestHeight > MOST_VALUES ? FAULT_DEEP : fault;
        }

        private int checkCreate() {
            if (tables.find(statement.tableNames[0]) != NONE) {
                return FAULT_TAKEN;
            }
            if (tables.isFull()) {
                return FAULT_FULL;
            }
            for (int i = 0; i < statement.partCount; i++) {
                for (int j = 0; j < i; j++) {
                    if (statement.names[i] == statement.names[j]) {
                        return FAULT_TAKEN;
                    }
                }
            }
            return 0;
        }

        private int checkInsert() {
            Table table = tables.tableAt(statement.tableNumbers[0]);
            if (statement.partCount != table.columnCount()) {
                return FAULT_COUNT;
            }
            for (int i = 0; i < statement.partCount; i++) {
                if (clash(statement.types[i], table.typeOf(i))) {
                    return FAULT_TYPE;
                }
            }
            return table.isFull() ? FAULT_FULL : 0;
        }

        private int checkAssignment() {
            Table table = tables.tableAt(statement.tableNumbers[0]);
            statement.targetColumn = table.findColumn(statement.targetName);
            if (statement.targetColumn == NONE) {
                return FAULT_NAME;
            }
            int fault = checkWords(0, statement.itemEnds[0]);
            if (fault != 0) {
                return fault;
            }
            return clash(types[0], table.typeOf(statement.targetColumn)) ? FAULT_TYPE : 0;
        }

        private int checkItems() {
            for (int i = 0; i < statement.partCount; i++) {
                int fault = checkWords(statement.itemStart(i), statement.itemEnds[i]);
                if (fault != 0) {
                    return fault;
                }
                if (statement.aggregates[i] == Words.SUM && types[0] == TEXT_TYPE) {
                    return FAULT_TYPE;
                }
            }
            return 0;
        }

        private int checkTail() {
            int place = NONE;
            if (statement.isGrouped()) {
                place = findPlace(statement.groupWord);
                if (place == NONE) {
                    return FAULT_NAME;
                }
            }
            int number = statement.orderNumber;
            if (number != NONE && (number < 1 || number > statement.partCount)) {
                return FAULT_TYPE;
            }
            int aggregates = statement.aggregateCount();
            boolean fits = statement.isGrouped()
                ? isFirstItem(place) && aggregates == statement.partCount - 1
                : aggregates == 0 || aggregates == statement.partCount;
            return fits ? 0 : FAULT_TYPE;
        }

        private boolean isFirstItem(int place) {
            return statement.aggregates[0] == NONE && statement.itemEnds[0] == 1
                && statement.draft.operationAt(0) == loadOf(place)
                && statement.draft.argumentAt(0) == place % MOST_COLUMNS;
        }

        /** If there is no fault, types[0] is the type of what the words give. */
        private int checkWords(int from, int to) {
            height = 0;
            for (int at = from; at < to; at++) {
                int fault = checkWord(at);
                if (fault != 0) {
                    return fault;
                }
                greatestHeight = Math.max(greatestHeight, height);
            }
            return 0;
        }

        private int checkWord(int at) {
            int operation = statement.draft.operationAt(at);
            if (operation == Machine.PLACE) {
                return checkPlace(at);
            }
            if (operation <= Machine.NOTHING) {
                push(operation == Machine.NUMBER ? NUMBER_TYPE
                    : operation == Machine.TEXT ? TEXT_TYPE : NO_TYPE);
                return 0;
            }
            if (operation == Machine.NEGATE) {
                int only = pop();
                push(NUMBER_TYPE);
                return only == TEXT_TYPE ? FAULT_TYPE : 0;
            }
            if (operation == Machine.IS_NULL || operation == Machine.NOT) {
                pop();
                push(NO_TYPE);
                return 0;
            }
            int right = pop();
            int left = pop();
            if (operation <= Machine.DIVIDE) {
                push(NUMBER_TYPE);
                return left == TEXT_TYPE || right == TEXT_TYPE ? FAULT_TYPE : 0;
            }
            push(NO_TYPE);
            return clash(left, right) ? FAULT_TYPE : 0;
        }

        private int checkPlace(int at) {
            int place = findPlace(statement.draft.argumentAt(at));
            if (place == NONE) {
                return FAULT_NAME;
            }
            int column = place % MOST_COLUMNS;
            int table = statement.tableNumbers[place / MOST_COLUMNS];
            statement.draft.change(at, loadOf(place), column);
            push(tables.tableAt(table).typeOf(column));
            return 0;
        }

        /** Answers MOST_COLUMNS times the number of the table in the text, plus that of the column. */
        private int findPlace(int word) {
            boolean isPointed = words.kindAt(word + 1) == '.';
            int wanted = words.contentAt(isPointed ? word + 2 : word);
            int place = NONE;
            for (int i = 0; i < statement.tableCount; i++) {
                boolean isMeant = !isPointed || statement.tableNames[i] == words.contentAt(word);
                Table table = tables.tableAt(statement.tableNumbers[i]);
                int column = isMeant ? table.findColumn(wanted) : NONE;
                if (column != NONE && place != NONE) {
                    return NONE;
                }
                if (column != NONE) {
                    place = i * MOST_COLUMNS + column;
                }
            }
            return place;
        }

        private void push(int type) {
            if (height < MOST_SIGNS) {
                types[height] = type;
                height++;
            }
        }

        private int pop() {
            if (height > 0) {
                height--;
            }
            return types[height];
        }

        private static int loadOf(int place) {
            return place < MOST_COLUMNS ? Machine.LOAD_OUTER : Machine.LOAD_INNER;
        }

        private static boolean clash(int one, int other) {
            return one == NUMBER_TYPE && other == TEXT_TYPE
                || one == TEXT_TYPE && other == NUMBER_TYPE;
        }
    }

    /** Turns a checked statement into a program of the machine. */
    private static final class Maker {
        private final Statement statement;
        private final Code program;

        Maker(Statement statement, Code program) {
            this.statement = statement;
            this.program = program;
        }

        void make() {
            program.clear();
            switch (statement.kind) {
                case Words.CREATE:
                    makeCreate();
                    break;
                case Words.INSERT:
                    makeInsert();
                    break;
                case Words.DELETE:
                    makeDelete();
                    break;
                case Words.UPDATE:
                    makeUpdate();
                    break;
                default:
                    makeSelect();
                    break;
            }
            program.add(Machine.END, 0);
        }

        private void makeCreate() {
            for (int i = 0; i < statement.partCount; i++) {
                boolean isNumber = statement.types[i] == NUMBER_TYPE;
                program.add(isNumber ? Machine.NUMBERS : Machine.TEXTS, statement.names[i]);
            }
            program.add(Machine.TABLE, statement.tableNames[0]);
        }

        private void makeInsert() {
            program.add(Machine.OUTER, statement.tableNumbers[0]);
            for (int i = 0; i < statement.partCount; i++) {
                int type = statement.types[i];
                int operation = type == NUMBER_TYPE ? Machine.NUMBER
                    : type == TEXT_TYPE ? Machine.TEXT : Machine.NOTHING;
                program.add(operation, statement.values[i]);
                program.add(Machine.FIELD, i);
            }
            program.add(Machine.APPEND, 0);
        }

        private void makeDelete() {
            int next = startRows();
            program.add(Machine.MARK, 0);
            endRows(next);
            program.add(Machine.DROP, 0);
        }

        private void makeUpdate() {
            int next = startRows();
            copyDraft(0, statement.itemEnds[0]);
            program.add(Machine.NOTE, 0);
            endRows(next);
            program.add(Machine.CHANGE, statement.targetColumn);
        }

        private void makeSelect() {
            boolean isSummed = statement.aggregateCount() > 0 || statement.isGrouped();
            if (isSummed && !statement.isGrouped()) {
                program.add(Machine.WHOLE, 0);
            }
            int next = startRows();
            for (int i = 0; i < statement.partCount; i++) {
                copyDraft(statement.itemStart(i), statement.itemEnds[i]);
                program.add(collectorOf(i), i);
            }
            if (!isSummed) {
                program.add(Machine.ROW, 0);
            }
            endRows(next);
            for (int i = 0; i < statement.partCount; i++) {
                if (statement.aggregates[i] == Words.COUNT) {
                    program.add(Machine.COUNTED, i);
                } else if (statement.aggregates[i] == Words.SUM) {
                    program.add(Machine.SUMMED, i);
                }
            }
            if (statement.orderNumber != NONE) {
                int operation = statement.descending ? Machine.FALLING : Machine.RISING;
                program.add(operation, statement.orderNumber - 1);
            }
            program.add(Machine.SHOW, statement.partCount);
        }

        private int collectorOf(int item) {
            switch (statement.aggregates[item]) {
                case Words.COUNT:
                    return Machine.COUNT;
                case Words.SUM:
                    return Machine.SUM;
                case Words.MIN:
                    return Machine.MIN;
                case Words.MAX:
                    return Machine.MAX;
                default:
                    return statement.isGrouped() ? Machine.GROUP : Machine.PUT;
            }
        }

        /** Answers the number of the word that goes on to the next row. */
        private int startRows() {
            program.add(Machine.OUTER, statement.tableNumbers[0]);
            boolean isPair = statement.tableCount > 1;
            if (isPair) {
                program.add(Machine.INNER, statement.tableNumbers[1]);
            }
            int next = program.end();
            program.add(Machine.NEXT_OUTER, 0);
            if (isPair) {
                next = program.end();
                program.add(Machine.NEXT_INNER, next - 1);
            }
            if (statement.conditionStart != NONE) {
                copyDraft(statement.conditionStart, statement.draft.end());
                program.add(Machine.UNLESS, next);
            }
            return next;
        }

        private void endRows(int next) {
            program.add(Machine.JUMP, next);
            int outer = statement.tableCount > 1 ? next - 1 : next;
            program.change(outer, Machine.NEXT_OUTER, program.end());
        }

        private void copyDraft(int from, int to) {
            for (int at = from; at < to; at++) {
                program.add(statement.draft.operationAt(at), statement.draft.argumentAt(at));
            }
        }
    }

    /** Rows of items; behind them there is room for the row that comes next. */
    private static final class Result {
        private final long[] values;
        /** Which stored row stands where. */
        private final int[] order;
        private final int[] merged;
        private int rows;
        private int items;

        Result() {
            values = new long[MOST_RESULTS * MOST_COLUMNS];
            order = new int[MOST_RESULTS];
            merged = new int[MOST_RESULTS];
            rows = 0;
            items = 0;
        }

        void clear() {
            rows = 0;
            items = 0;
        }

        int rowCount() {
            return rows;
        }

        int itemCount() {
            return items;
        }

        void setItemCount(int count) {
            items = count;
        }

        boolean has(int row, int item) {
            return row >= 0 && row < rows && item >= 0 && item < items;
        }

        long heldAt(int row, int item) {
            return isInside(row, item) ? values[order[row] * MOST_COLUMNS + item] : MISSING;
        }

        void putNext(int item, long value) {
            if (rows < MOST_RESULTS && item >= 0 && item < MOST_COLUMNS) {
                values[rows * MOST_COLUMNS + item] = value;
            }
        }

        void append() {
            if (rows < MOST_RESULTS) {
                order[rows] = rows;
                rows++;
            }
        }

        void appendMissing() {
            for (int item = 0; item < MOST_COLUMNS; item++) {
                putNext(item, MISSING);
            }
            append();
        }

        void set(int row, int item, long value) {
            if (isInside(row, item)) {
                values[order[row] * MOST_COLUMNS + item] = value;
            }
        }

        int findFirstItem(long value) {
            for (int row = 0; row < rows; row++) {
                if (heldAt(row, 0) == value) {
                    return row;
                }
            }
            return NONE;
        }

        /** Merges longer and longer runs: equal rows keep their order. */
        void sort(int item, boolean descending) {
            if (item < 0 || item >= MOST_COLUMNS) {
                return;
            }
            for (int width = 1; width < rows; width *= 2) {
                for (int from = 0; from < rows; from += 2 * width) {
                    int middle = Math.min(from + width, rows);
                    int to = Math.min(middle + width, rows);
                    merge(from, middle, to, item, descending);
                }
                System.arraycopy(merged, 0, order, 0, rows);
            }
        }

        private void merge(int from, int middle, int to, int item, boolean descending) {
            int left = from;
            int right = middle;
            for (int at = from; at < to; at++) {
                boolean isRight = right < to && (left >= middle
                    || (descending ? isBefore(order[left], order[right], item)
                        : isBefore(order[right], order[left], item)));
                merged[at] = isRight ? order[right] : order[left];
                if (isRight) {
                    right++;
                } else {
                    left++;
                }
            }
        }

        private boolean isBefore(int stored, int other, int item) {
            return values[stored * MOST_COLUMNS + item] < values[other * MOST_COLUMNS + item];
        }

        private boolean isInside(int row, int item) {
            return row >= 0 && row < rows && item >= 0 && item < MOST_COLUMNS;
        }
    }

    /** The machine: a pile of at most ten values, a row of each of two tables, and a new result. */
    private static final class Machine {
        static final int NUMBER = 1;
        static final int TEXT = 2;
        static final int NOTHING = 3;
        static final int LOAD_OUTER = 4;
        static final int LOAD_INNER = 5;
        static final int NEGATE = 6;
        static final int ADD = 7;
        static final int SUBTRACT = 8;
        static final int MULTIPLY = 9;
        static final int DIVIDE = 10;
        static final int EQUAL = 11;
        static final int UNEQUAL = 12;
        static final int LESS = 13;
        static final int GREATER = 14;
        static final int AT_MOST = 15;
        static final int AT_LEAST = 16;
        static final int IS_NULL = 17;
        static final int NOT = 18;
        static final int AND = 19;
        static final int OR = 20;
        static final int OUTER = 21;
        static final int INNER = 22;
        static final int NEXT_OUTER = 23;
        static final int NEXT_INNER = 24;
        static final int UNLESS = 25;
        static final int JUMP = 26;
        static final int END = 27;
        static final int PUT = 28;
        static final int ROW = 29;
        static final int WHOLE = 30;
        static final int GROUP = 31;
        static final int COUNT = 32;
        static final int SUM = 33;
        static final int MIN = 34;
        static final int MAX = 35;
        static final int COUNTED = 36;
        static final int SUMMED = 37;
        static final int RISING = 38;
        static final int FALLING = 39;
        static final int SHOW = 40;
        static final int MARK = 41;
        static final int NOTE = 42;
        static final int DROP = 43;
        static final int CHANGE = 44;
        static final int FIELD = 45;
        static final int APPEND = 46;
        static final int NUMBERS = 47;
        static final int TEXTS = 48;
        static final int TABLE = 49;
        /** Of drafts alone: a program that still has it is not sound. */
        static final int PLACE = 50;

        private static final int FALSE = 0;
        private static final int UNKNOWN = 1;
        private static final int TRUE = 2;
        private static final long BOUND = 400;
        private static final int MOST_STEPS = 1000000;

        private final Code program;
        private final Tables tables;
        private final long[] values;
        private Result result;
        private Result fresh;
        private Table outer;
        private Table inner;
        private int outerRow;
        private int innerRow;
        private int top;
        private int group;
        private int at;
        private int answer;
        private boolean isRunning;
        private boolean isKnown;
        private long done;
        private long passes;
        private long limit;

        Machine(Code program, Tables tables) {
            this.program = program;
            this.tables = tables;
            values = new long[MOST_VALUES];
            result = new Result();
            fresh = new Result();
            outer = tables.tableAt(0);
            inner = tables.tableAt(0);
            isKnown = true;
        }

        Result result() {
            return result;
        }

        boolean keptBound() {
            return done <= limit;
        }

        boolean knewAll() {
            return isKnown;
        }

        /** Does the program; answers what it answers, or a fault. */
        int run(int textWords) {
            fresh.clear();
            top = 0;
            group = 0;
            at = 0;
            answer = 0;
            done = 0;
            passes = 0;
            isKnown = true;
            isRunning = true;
            for (int n = 0; n < MOST_STEPS && isRunning; n++) {
                int here = at;
                at++;
                done++;
                step(program.operationAt(here), program.argumentAt(here));
            }
            limit = BOUND * textWords * (passes + 1);
            return answer;
        }

        private void step(int operation, int argument) {
            if (operation < NUMBER || operation > TABLE) {
                isKnown = false;
                isRunning = false;
            } else if (operation <= LOAD_INNER) {
                bring(operation, argument);
            } else if (operation <= DIVIDE) {
                calculate(operation);
            } else if (operation <= AT_LEAST) {
                compare(operation);
            } else if (operation <= OR) {
                judge(operation);
            } else if (operation <= END) {
                go(operation, argument);
            } else if (operation <= MAX) {
                collect(operation, argument);
            } else if (operation <= SHOW) {
                finishRows(operation, argument);
            } else {
                changeTables(operation, argument);
            }
        }

        private void bring(int operation, int argument) {
            switch (operation) {
                case NOTHING:
                    push(MISSING);
                    break;
                case LOAD_OUTER:
                    push(outer.heldAt(outerRow, argument));
                    break;
                case LOAD_INNER:
                    push(inner.heldAt(innerRow, argument));
                    break;
                default:
                    push(argument);
                    break;
            }
        }

        private void calculate(int operation) {
            long right = pop();
            long left = operation == NEGATE ? 0 : pop();
            if (left == MISSING || right == MISSING) {
                push(MISSING);
                return;
            }
            if (operation == DIVIDE && right == 0) {
                fail(FAULT_ZERO);
                return;
            }
            long number = calculated(operation, left, right);
            if (!fits(number)) {
                fail(FAULT_OVERFLOW);
                return;
            }
            push(number);
        }

        private static long calculated(int operation, long left, long right) {
            switch (operation) {
                case ADD:
                    return left + right;
                case MULTIPLY:
                    return left * right;
                case DIVIDE:
                    return right == 0 ? 0 : left / right;
                default:
                    return left - right;
            }
        }

        /** Texts are held so that their order is that of their numbers. */
        private void compare(int operation) {
            long right = pop();
            long left = pop();
            boolean isUnknown = left == MISSING || right == MISSING;
            push(isUnknown ? UNKNOWN : holds(operation, left, right) ? TRUE : FALSE);
        }

        private static boolean holds(int operation, long left, long right) {
            switch (operation) {
                case EQUAL:
                    return left == right;
                case UNEQUAL:
                    return left != right;
                case LESS:
                    return left < right;
                case GREATER:
                    return left > right;
                case AT_MOST:
                    return left <= right;
                default:
                    return left >= right;
            }
        }

        private void judge(int operation) {
            long right = pop();
            if (operation == IS_NULL) {
                push(right == MISSING ? TRUE : FALSE);
                return;
            }
            if (operation == NOT) {
                push(TRUE - right);
                return;
            }
            long left = pop();
            push(operation == AND ? Math.min(left, right) : Math.max(left, right));
        }

        private void go(int operation, int argument) {
            switch (operation) {
                case OUTER:
                    outer = tables.tableAt(argument);
                    outer.unmark();
                    outerRow = NONE;
                    passes = outer.rowCount();
                    break;
                case INNER:
                    inner = tables.tableAt(argument);
                    innerRow = NONE;
                    passes = passes * Math.max(1, inner.rowCount());
                    break;
                case NEXT_OUTER:
                    outerRow++;
                    if (outerRow >= outer.rowCount()) {
                        at = argument;
                    }
                    break;
                case NEXT_INNER:
                    innerRow++;
                    if (innerRow >= inner.rowCount()) {
                        innerRow = NONE;
                        at = argument;
                    }
                    break;
                case UNLESS:
                    if (pop() != TRUE) {
                        at = argument;
                    }
                    break;
                case JUMP:
                    at = argument;
                    break;
                default:
                    isRunning = false;
                    break;
            }
        }

        private void collect(int operation, int item) {
            switch (operation) {
                case PUT:
                    fresh.putNext(item, pop());
                    break;
                case ROW:
                    fresh.append();
                    break;
                case WHOLE:
                    startGroup();
                    break;
                case GROUP:
                    findGroup(pop());
                    break;
                default:
                    gather(operation, item, pop());
                    break;
            }
        }

        private void findGroup(long value) {
            group = fresh.findFirstItem(value);
            if (group == NONE) {
                startGroup();
                fresh.set(group, 0, value);
            }
        }

        private void startGroup() {
            group = fresh.rowCount();
            fresh.appendMissing();
        }

        private void gather(int operation, int item, long value) {
            if (value == MISSING) {
                return;
            }
            long before = fresh.heldAt(group, item);
            boolean isFirst = before == MISSING;
            switch (operation) {
                case COUNT:
                    fresh.set(group, item, isFirst ? 1 : before + 1);
                    break;
                case SUM:
                    // It may be too great on its way: SUMMED looks at it in the end.
                    fresh.set(group, item, isFirst ? value : before + value);
                    break;
                case MIN:
                    fresh.set(group, item, isFirst ? value : Math.min(before, value));
                    break;
                default:
                    fresh.set(group, item, isFirst ? value : Math.max(before, value));
                    break;
            }
        }

        private void finishRows(int operation, int argument) {
            switch (operation) {
                case COUNTED:
                    endCounts(argument);
                    break;
                case SUMMED:
                    endSums(argument);
                    break;
                case RISING:
                    fresh.sort(argument, false);
                    break;
                case FALLING:
                    fresh.sort(argument, true);
                    break;
                default:
                    show(argument);
                    break;
            }
        }

        private void endCounts(int item) {
            for (int row = 0; row < fresh.rowCount(); row++) {
                if (fresh.heldAt(row, item) == MISSING) {
                    fresh.set(row, item, 0);
                }
            }
        }

        private void endSums(int item) {
            for (int row = 0; row < fresh.rowCount(); row++) {
                long sum = fresh.heldAt(row, item);
                if (sum != MISSING && !fits(sum)) {
                    fail(FAULT_OVERFLOW);
                }
            }
        }

        private void show(int items) {
            fresh.setItemCount(items);
            Result old = result;
            result = fresh;
            fresh = old;
            answer = result.rowCount();
        }

        private void changeTables(int operation, int argument) {
            switch (operation) {
                case MARK:
                    outer.mark(outerRow, MISSING);
                    break;
                case NOTE:
                    outer.mark(outerRow, pop());
                    break;
                case DROP:
                    answer = outer.dropMarked();
                    break;
                case CHANGE:
                    answer = outer.changeMarked(argument);
                    break;
                case FIELD:
                    outer.putNext(argument, pop());
                    break;
                case APPEND:
                    outer.append();
                    answer = 1;
                    break;
                case NUMBERS:
                    tables.addNextColumn(argument, NUMBER_TYPE);
                    break;
                case TEXTS:
                    tables.addNextColumn(argument, TEXT_TYPE);
                    break;
                default:
                    tables.append(argument);
                    break;
            }
        }

        private void push(long value) {
            if (top < MOST_VALUES) {
                values[top] = value;
                top++;
            }
        }

        private long pop() {
            if (top > 0) {
                top--;
            }
            return values[top];
        }

        private void fail(int fault) {
            answer = fault;
            isRunning = false;
        }

        private static boolean fits(long number) {
            return number >= LEAST && number <= GREATEST;
        }
    }
}
