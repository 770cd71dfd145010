/** Terms: faults, their numbers, their order, and DEEP; each method is of one sentence of the document. */
public final class FaultEdgesTest {
    private static final int NAME = -1001;
    private static final int TYPE = -1002;
    private static final int TAKEN = -1003;
    private static final int ZERO = -1004;
    private static final int FULL = -1006;
    private static final int COUNT = -1007;
    private static final int DEEP = -1008;
    private static final String[] SIGNS = {"=", "<>", "<", ">", "<=", ">="};
    private static final Check CHECK = new Check("FaultEdgesTest");

    public static void main(String[] args) {
        firstWrongWord();
        endsTooEarly();
        wrongWords();
        wrongWordsBeforeOtherFaults();
        noSuchTable();
        placeOfOneTable();
        placeWithPoint();
        signOfText();
        numberAndText();
        numberAndTextOfColumns();
        orderNumber();
        groupFirstItem();
        groupOtherItems();
        someAggregates();
        deep();
        takenTable();
        takenColumns();
        count();
        fullOfTables();
        fullOfRows();
        orderOfTables();
        orderOfCreate();
        orderOfInsert();
        orderOfTheText();
        orderOfUpdate();
        orderOfSelect();
        wantedByOne();
        wantedByTwoSides();
        CHECK.end();
    }

    /** Two tables with a column of one name, a row in the first one, and a result. */
    private static void two() {
        CHECK.fresh("create t(a int,b text)", "create u(a int,c int)", "insert t(5,'x')", "select b,a from t");
    }

    private static void firstWrongWord() {
        CHECK.says("FAULTS: - 1 less the number (from 0 on) of the first word that is wrong");
        two();
        CHECK.refused("t", -1);
        CHECK.refused("delete 5", -2);
        CHECK.refused("delete t t", -3);
        CHECK.refused("from from from", -1);
        CHECK.refused("delete t where = =", -4);
        CHECK.refused("select a from ! '", -4);
        CHECK.refused("select a from t where a=5 and !", -10);
        // The farthest word that can be wrong: the last one of two hundred signs.
        CHECK.refused("select a" + "+a".repeat(95) + "+)", -1 - 193);
        CHECK.refused("select-a" + "+a".repeat(95) + "+)", -1 - 194);
        CHECK.refused("!".repeat(200), -1);
    }

    private static void endsTooEarly() {
        CHECK.says("(if it ends too early, the one behind the last;");
        CHECK.fresh();
        CHECK.refused("", -1);
        CHECK.refused(" ", -1);
        prefixes("create z ( a int , b text )", "");
        prefixes("insert z ( 5 , - 5 , 'x' , null )", "");
        prefixes("delete z where z . a + 1 = 5", ",2,");
        prefixes("update z set a = ( a * - 5 ) where not [ a is null or a < b ]", ",11,");
        prefixes("update z set a = a / 5 where a <> 5", ",6,8,12,");
        prefixes("select z . a , sum ( b ) from z , y where a = 5 group z . a order 1 desc",
            ",11,13,17,19,21,23,");
    }

    /** The first n words for each n; those that are whole are told between commas: there is no table z. */
    private static void prefixes(String statement, String whole) {
        String[] words = statement.split(" ");
        StringBuilder start = new StringBuilder();
        for (int n = 0; n < words.length; n++) {
            CHECK.refused(start.toString().trim(), whole.contains("," + n + ",") ? NAME : -1 - n);
            CHECK.refused(start + "!", -1 - n);
            start.append(words[n]).append(' ');
        }
    }

    private static void wrongWords() {
        CHECK.says("a sign that begins no word, a number too great, a text too long are wrong words, of one sign, "
            + "the digits, and the ' and what is behind it to the next ' or the end).");
        two();
        for (String word : new String[] {"!", "A", "2147483648", "99999999999", "'abcde'", "'abcde", "'a b c'"}) {
            CHECK.refusedWord(word, 0);
            CHECK.refusedWord("delete " + word, 1);
            CHECK.refusedWord("select " + word + " from t", 1);
            CHECK.refusedWord("select a from t where a=" + word, 7);
            CHECK.refusedWord("select a from t where a=5 " + word, 8);
            CHECK.refusedWord("insert t(" + word + ",'x')", 3);
        }
        // What stands before them is still read as words of its own.
        CHECK.refusedWord("select a+5!", 4);
        CHECK.refusedWord("select a+52147483648", 3);
        CHECK.refusedWord("select b,b'abcde' from t", 4);
        CHECK.refusedWord("select 'a''abcde' from t", 2);
    }

    private static void wrongWordsBeforeOtherFaults() {
        CHECK.says("Else, the first that holds:");
        two();
        CHECK.refusedWord("delete z!", 2);
        CHECK.refusedWord("select x from z where -b=1 order", 10);
        CHECK.refusedWord("create t(a int,a int", 8);
        CHECK.refusedWord("insert t('x'", 4);
        CHECK.refusedWord("update t set x=-b where", 8);
        CHECK.refusedWord("select a,sum(a) from t order 9 asc", 11);
    }

    private static void noSuchTable() {
        CHECK.says("NAME - 1,001: there is no such table;");
        CHECK.fresh();
        CHECK.refused("insert t(5)", NAME);
        CHECK.refused("delete t", NAME);
        CHECK.refused("update t set a=5", NAME);
        CHECK.refused("select 5 from t", NAME);
        two();
        CHECK.refused("insert z(5,'x')", NAME);
        CHECK.refused("delete z", NAME);
        CHECK.refused("update z set a=5", NAME);
        CHECK.refused("select 5 from z", NAME);
        CHECK.refused("select 5 from t,z", NAME);
        CHECK.refused("select 5 from z,t", NAME);
        CHECK.refused("delete a", NAME);
        CHECK.act("select 5 from t,u", 0);
        CHECK.act("create z(a int)", 0);
        CHECK.act("delete z", 0);
    }

    private static void placeOfOneTable() {
        CHECK.says("a PLACE is no column of one table alone of those named");
        two();
        CHECK.select("select a,b from t", "5,'x'");
        CHECK.act("select b,c from t,u", 0);
        CHECK.act("select c,b from u,t", 0);
        for (String place : new String[] {"c", "x", "t", "u.c", "u.a", "z.a", "t.c", "t.t"}) {
            places(place);
        }
        for (String place : new String[] {"a", "x", "t.c", "u.b", "z.c"}) {
            CHECK.refused("select " + place + " from t,u", NAME);
            CHECK.refused("select 5 from u,t where 5=" + place, NAME);
            CHECK.refused("select b from t,u group " + place, NAME);
        }
        CHECK.refused("select a from t,t", NAME);
    }

    /** The place is no column of t: wherever a place may stand. */
    private static void places(String place) {
        CHECK.refused("select " + place + " from t", NAME);
        CHECK.refused("select 1,2,3,-(" + place + "+1) from t", NAME);
        CHECK.refused("select count(" + place + ") from t", NAME);
        CHECK.refused("select a from t where " + place + " is null", NAME);
        CHECK.refused("select a from t group " + place, NAME);
        CHECK.refused("delete t where 5>" + place, NAME);
        CHECK.refused("update t set a=" + place, NAME);
        CHECK.refused("update t set a=5 where " + place + "=5", NAME);
    }

    private static void placeWithPoint() {
        CHECK.says("(with a name before the point: of those of that name: of two times the same table both have it).");
        two();
        CHECK.act("insert u(6,7)", 1);
        CHECK.select("select t.a,u.a,t.b,u.c from t,u", "5,6,'x',7");
        CHECK.select("select u.a,t.a from u,t", "6,5");
        CHECK.select("select t.a from t", "5");
        CHECK.act("delete t where t.a=9", 0);
        CHECK.act("update t set a=t.a where t.a=9", 0);
        CHECK.select("select 8 from t,t", "8");
        CHECK.refused("select t.a from t,t", NAME);
        CHECK.refused("select 8 from t,t where t.b='x'", NAME);
        CHECK.refused("select 8 from t,t group t.a", NAME);
        CHECK.refused("select u.a from t,t", NAME);
        CHECK.refused("select t.x from t,t", NAME);
    }

    private static void signOfText() {
        CHECK.says("TYPE - 1,002: a sign + - * / or - (before a factor), or sum, is of a text;");
        two();
        for (String sign : new String[] {"+", "-", "*", "/"}) {
            for (String text : new String[] {"b", "'x'", "(b)", "('x')"}) {
                CHECK.refused("select a" + sign + text + " from t", TYPE);
                CHECK.refused("select " + text + sign + "5 from t", TYPE);
                CHECK.refused("select null" + sign + text + " from t", TYPE);
            }
        }
        for (String item : new String[] {"-b", "-'x'", "--b", "-(b)", "sum(b)", "sum('x')", "sum(-b)", "max(b+1)"}) {
            CHECK.refused("select " + item + " from t", TYPE);
        }
        CHECK.refused("delete t where -b is null", TYPE);
        CHECK.refused("update t set a=-b", TYPE);
        CHECK.select("select min(b),max('y'),count(b),sum(a) from t", "'x','y',1,5");
    }

    private static void numberAndText() {
        CHECK.says("both sides of a SIGN, or a column and what it gets, are a number and a text;");
        for (String sign : SIGNS) {
            two();
            CHECK.refused("delete t where a" + sign + "b", TYPE);
            CHECK.refused("delete t where b" + sign + "a", TYPE);
            CHECK.refused("delete t where 5" + sign + "'x'", TYPE);
            CHECK.refused("delete t where 'x'" + sign + "5", TYPE);
            CHECK.refused("delete t where b" + sign + "a+1", TYPE);
            CHECK.refused("delete t where -a" + sign + "(b)", TYPE);
            CHECK.act("select 5 from t,u where t.a" + sign + "u.a and b" + sign + "'y'", 0);
            CHECK.act("delete u where null" + sign + "5 or null" + sign + "'x'or a" + sign + "null", 0);
        }
    }

    private static void numberAndTextOfColumns() {
        CHECK.says("a column and what it gets, are a number and a text;");
        two();
        CHECK.refused("insert t('x','x')", TYPE);
        CHECK.refused("insert t(5,5)", TYPE);
        CHECK.refused("insert t(5,-5)", TYPE);
        CHECK.refused("insert t(null,5)", TYPE);
        CHECK.refused("insert t('x',null)", TYPE);
        CHECK.refused("insert t('x',5)", TYPE);
        CHECK.refused("update t set a='x'", TYPE);
        CHECK.refused("update t set a=b", TYPE);
        CHECK.refused("update t set b=5", TYPE);
        CHECK.refused("update t set b=a", TYPE);
        CHECK.refused("update t set b=a+1 where 1=2", TYPE);
        CHECK.act("insert t(null,null)", 1);
        CHECK.act("update t set a=null", 2);
        CHECK.act("update t set b=null", 2);
        CHECK.act("update t set b=(b)", 2);
        CHECK.act("update t set a=5", 2);
        CHECK.fresh("create t(a int,b int,c int,d text)");
        CHECK.refused("insert t(1,2,3,4)", TYPE);
        CHECK.refused("insert t(1,2,'x','x')", TYPE);
        CHECK.act("insert t(1,2,3,'x')", 1);
    }

    private static void orderNumber() {
        CHECK.says("an order's number is not that of an item (from 1 on);");
        String items = "a";
        for (int count = 1; count <= 4; count++) {
            two();
            CHECK.refused("select " + items + " from t order 0", TYPE);
            CHECK.refused("select " + items + " from t order 0 desc", TYPE);
            for (int number = 1; number <= count; number++) {
                CHECK.act("select " + items + " from t order " + number, 1);
            }
            CHECK.refused("select " + items + " from t order " + (count + 1), TYPE);
            CHECK.refused("select " + items + " from t order 2147483647 desc", TYPE);
            items += ",b";
        }
        two();
        CHECK.refused("select a,sum(a) from t group a order 3", TYPE);
        CHECK.refused("select sum(a) from t order 2", TYPE);
        CHECK.act("select a,sum(a) from t group a order 2", 1);
    }

    private static void groupFirstItem() {
        CHECK.says("with group: the first item is not that PLACE (as a column),");
        two();
        CHECK.act("select a from t group a", 1);
        CHECK.act("select a from t group t.a", 1);
        CHECK.act("select t.a from t group a", 1);
        CHECK.act("select t.a,sum(c) from t,u group t.a", 0);
        CHECK.act("select c,sum(t.a) from t,u group u.c", 0);
        for (String first : new String[] {"b", "5", "null", "'x'", "a+0", "-a", "a*1", "sum(a)", "min(a)"}) {
            CHECK.refused("select " + first + " from t group a", TYPE);
            CHECK.refused("select " + first + ",sum(a) from t group t.a", TYPE);
        }
        CHECK.refused("select t.a from t,u group u.a", TYPE);
        CHECK.refused("select u.a from t,u group t.a", TYPE);
        CHECK.refused("select c from t,u group b", TYPE);
        CHECK.refused("select b from t,u group c", TYPE);
        CHECK.refused("select sum(a),a from t group a", TYPE);
    }

    private static void groupOtherItems() {
        CHECK.says("or another one no aggregate;");
        two();
        CHECK.act("select a,sum(a),count(b),max(b) from t group a", 1);
        CHECK.act("select a from t group a", 1);
        CHECK.refused("select a,a from t group a", TYPE);
        CHECK.refused("select a,b from t group a", TYPE);
        CHECK.refused("select a,5 from t group a", TYPE);
        CHECK.refused("select a,sum(a),a from t group a", TYPE);
        CHECK.refused("select a,sum(a),count(a),null from t group a", TYPE);
        CHECK.refused("select a,a,count(a),min(a) from t group a", TYPE);
    }

    private static void someAggregates() {
        CHECK.says("without group: some items are aggregates, some are not.");
        two();
        CHECK.act("select a,b,5,null from t", 1);
        CHECK.act("select sum(a),min(b),max(5),count(null) from t", 1);
        CHECK.refused("select a,sum(a) from t", TYPE);
        CHECK.refused("select sum(a),a from t", TYPE);
        CHECK.refused("select sum(a),5 from t", TYPE);
        CHECK.refused("select 5,min(b),max(b),count(b) from t", TYPE);
        CHECK.refused("select min(b),max(b),count(b),null from t", TYPE);
        CHECK.refused("select a,b,5,count(b) from t", TYPE);
        CHECK.refused("select count(c),a,c,5 from u", TYPE);
    }

    private static void deep() {
        CHECK.says("DEEP - 1,008: a condition or EXPRESSION wants more than ten values (below).");
        String ten = chain(10);
        String eleven = chain(11);
        String nine = chain(9);
        String[] frames = {"select %s from t", "select 1,2,3,%s from t", "select sum(%s) from t",
            "select a,max(%s) from t group a", "update t set a=%s", "delete t where %s=9",
            "update t set a=1 where %s is null", "select a from t where %s<9"};
        int[] answers = {1, 1, 1, 1, 1, 0, 0, 0};
        for (int i = 0; i < frames.length; i++) {
            CHECK.fresh("create t(a int,b text)", "insert t(1,'x')", "select b from t");
            CHECK.refused(frames[i].replace("%s", eleven), DEEP);
            CHECK.act(frames[i].replace("%s", ten), answers[i]);
        }
        CHECK.fresh("create t(a int,b text)", "insert t(1,'x')", "select b from t");
        CHECK.act("select " + ten + " from t", 1);
        CHECK.value(0, 0, 10);
        CHECK.act("update t set a=" + ten, 1);
        CHECK.act("delete t where 10>" + nine, 0);
        CHECK.cell(0, 0, 0, 10);
        CHECK.refused("delete t where 10>" + ten, DEEP);
        CHECK.refused("delete t where a=1 or 10>" + nine, DEEP);
        CHECK.act("delete t where a=1 or 10>" + chain(8), 0);
        // All items together may want more than ten.
        CHECK.act("select " + ten + "," + ten + "," + ten + " from t where " + ten + "=9", 0);
        // Without any row it is a fault as well.
        CHECK.fresh("create t(a int,b text)");
        CHECK.refused("select " + eleven + " from t", DEEP);
        CHECK.refused("delete t where " + eleven + "=1", DEEP);
    }

    private static void takenTable() {
        CHECK.says("TAKEN - 1,003: create: there is such a table,");
        two();
        CHECK.refused("create t(a int,b text)", TAKEN);
        CHECK.refused("create t(z int)", TAKEN);
        CHECK.refused("create u(a int)", TAKEN);
        CHECK.act("create v(a int)", 0);
        CHECK.refused("create v(a int)", TAKEN);
        // Of a refused create nothing is left, so its name is free.
        CHECK.refused("create w(a int,a int)", TAKEN);
        CHECK.act("create w(z int)", 0);
        CHECK.refused("create t(z int)", TAKEN);
        CHECK.refused("create w(z int)", TAKEN);
    }

    private static void takenColumns() {
        CHECK.says("or two columns of one name.");
        two();
        String[] names = {"e", "f", "g", "h"};
        for (int first = 0; first < 4; first++) {
            for (int second = first + 1; second < 4; second++) {
                StringBuilder columns = new StringBuilder();
                for (int i = 0; i <= 3; i++) {
                    String name = i == second ? names[first] : names[i];
                    columns.append(i == 0 ? "" : ",").append(name).append(i % 2 == 0 ? " int" : " text");
                    if (i >= second) {
                        CHECK.refused("create v(" + columns + ")", TAKEN);
                    }
                }
            }
        }
        CHECK.act("create v(v int,t int,a text,aa text)", 0);
    }

    private static void count() {
        CHECK.says("COUNT - 1,007: insert: not as many values as columns.");
        String[] columns = {"a int", "a int,b int", "a int,b int,c int", "a int,b int,c int,d int"};
        String[] values = {"1", "1,2", "1,2,3", "1,2,3,4"};
        for (int width = 0; width < 4; width++) {
            CHECK.fresh("create t(" + columns[width] + ")");
            for (int given = 0; given < 4; given++) {
                if (given == width) {
                    CHECK.act("insert t(" + values[given] + ")", 1);
                    CHECK.table(0, values[given]);
                } else {
                    CHECK.refused("insert t(" + values[given] + ")", COUNT);
                }
            }
            CHECK.size(0, 1);
        }
        CHECK.fresh("create t(a int,b text)", "create u(a int)");
        CHECK.refused("insert t(null)", COUNT);
        CHECK.refused("insert u(null,null)", COUNT);
    }

    private static void fullOfTables() {
        CHECK.says("FULL - 1,006: create: there are four tables;");
        CHECK.fresh("create t(a int,b text)", "create b(a int)", "create c(a int)");
        CHECK.act("create d(a int)", 0);
        CHECK.refused("create e(a int)", FULL);
        CHECK.refused("create abcdef(a int,b int,c int,d int)", FULL);
        CHECK.size(3, 0);
        CHECK.size(4, QueryForge.BAD);
        CHECK.refused("insert e(1)", NAME);
        // A table stays, also without rows.
        CHECK.act("delete d", 0);
        CHECK.refused("create e(a int)", FULL);
        CHECK.act("insert d(7)", 1);
        CHECK.select("select a from d", "7");
    }

    private static void fullOfRows() {
        CHECK.says("insert: there are 24 rows.");
        CHECK.fresh("create t(a int)", "create u(a int)");
        for (int n = 1; n <= 23; n++) {
            CHECK.act("insert t(" + n % 10 + ")", 1);
        }
        CHECK.act("insert t(9)", 1);
        CHECK.size(0, 24);
        CHECK.refused("insert t(8)", FULL);
        CHECK.refused("insert t(null)", FULL);
        CHECK.act("insert t(8)", FULL);
        CHECK.cell(0, 23, 0, 9);
        CHECK.cell(0, 24, 0, QueryForge.BAD);
        CHECK.act("insert u(8)", 1);
        CHECK.act("delete t where a=1", 3);
        CHECK.act("insert t(7)", 1);
        CHECK.size(0, 22);
        CHECK.cell(0, 20, 0, 9);
        CHECK.cell(0, 21, 0, 7);
        CHECK.act("insert t(7)", 1);
        CHECK.act("insert t(7)", 1);
        CHECK.act("insert t(7)", FULL);
    }

    private static void orderOfTables() {
        CHECK.says("They are looked for so: tables in the order of the text");
        two();
        CHECK.refused("select -b from z", NAME);
        CHECK.refused("select -b from t,z", NAME);
        CHECK.refused("select a,sum(a) from z order 9", NAME);
        CHECK.refused("select " + chain(11) + " from z", NAME);
        CHECK.refused("insert z('x')", NAME);
        CHECK.refused("delete z where 5='x'", NAME);
        CHECK.refused("update z set a=-'x'", NAME);
    }

    private static void orderOfCreate() {
        CHECK.says("(create: TAKEN of the table, FULL, TAKEN of columns;");
        two();
        CHECK.refused("create t(a int,a int)", TAKEN);
        CHECK.refused("create v(a int,a int)", TAKEN);
        CHECK.fresh("create t(a int,b text)", "create b(a int)", "create c(a int)", "create d(a int)");
        CHECK.refused("create d(a int)", TAKEN);
        CHECK.refused("create t(a int,a int)", TAKEN);
        CHECK.refused("create e(a int,a int)", FULL);
        CHECK.refused("create e(a int)", FULL);
    }

    private static void orderOfInsert() {
        CHECK.says("insert: COUNT, types in order, FULL);");
        CHECK.fresh("create t(a int)");
        for (int n = 1; n <= 24; n++) {
            CHECK.act("insert t(1)", 1);
        }
        CHECK.refused("insert t('x','x')", COUNT);
        CHECK.refused("insert t(1,1)", COUNT);
        CHECK.refused("insert t('x')", TYPE);
        CHECK.refused("insert t(1)", FULL);
        CHECK.refused("insert z('x','x')", NAME);
        two();
        CHECK.refused("insert t('x')", COUNT);
        CHECK.refused("insert t('x',5,5)", COUNT);
    }

    private static void orderOfTheText() {
        CHECK.says("then all that is worked out, in the order of the text, a sign's own fault behind that of its "
            + "right side;");
        two();
        CHECK.refused("select b+x from t", NAME);
        CHECK.refused("select b+1+x from t", TYPE);
        CHECK.refused("select x+(b+1) from t", NAME);
        CHECK.refused("select b*1+x from t", TYPE);
        CHECK.refused("select b+1*x from t", NAME);
        CHECK.refused("select b+(1-x) from t", NAME);
        CHECK.refused("select -b+x from t", TYPE);
        CHECK.refused("select -(b/x) from t", NAME);
        CHECK.refused("select -b,x from t", TYPE);
        CHECK.refused("select x,-b from t", NAME);
        CHECK.refused("select sum(b),x from t", TYPE);
        CHECK.refused("select sum(b+x) from t", NAME);
        CHECK.refused("delete t where b=x", NAME);
        CHECK.refused("delete t where b=1 and x=1", TYPE);
        CHECK.refused("delete t where x=1 and b=1", NAME);
        CHECK.refused("delete t where b=1+x", NAME);
        CHECK.refused("delete t where -b=x", TYPE);
        CHECK.refused("delete t where not b=1 or x is null", TYPE);
        CHECK.refused("delete t where[not x is null]or b=1", NAME);
    }

    private static void orderOfUpdate() {
        CHECK.says("update: the column (NAME) before the expression, what it gets behind that, then the condition;");
        two();
        CHECK.refused("update t set x=5", NAME);
        CHECK.refused("update t set c=5", NAME);
        CHECK.refused("update t set x=-b", NAME);
        CHECK.refused("update t set x=5 where b=5", NAME);
        CHECK.refused("update t set b=5+x", NAME);
        CHECK.refused("update t set a=-b where x=5", TYPE);
        CHECK.refused("update t set b=5 where x=5", TYPE);
        CHECK.refused("update t set a=5 where x=b", NAME);
        CHECK.refused("update t set a=x where b=5", NAME);
        CHECK.refused("update t set a=5 where b=5", TYPE);
        CHECK.refused("update t set b=" + chain(11), TYPE);
        CHECK.refused("update t set a=" + chain(11) + " where x=5", NAME);
        CHECK.refused("update t set a=a/0 where " + chain(11) + "=5", DEEP);
    }

    private static void orderOfSelect() {
        CHECK.says("select: items, the condition, group, order; last what group, or none, asks of items; then DEEP.");
        two();
        String eleven = chain(11);
        CHECK.refused("select -b from t where x=5", TYPE);
        CHECK.refused("select x from t where b=5", NAME);
        CHECK.refused("select a from t where b=5 group x", TYPE);
        CHECK.refused("select a from t where x=5 order 9", NAME);
        CHECK.refused("select a from t group x order 9", NAME);
        CHECK.refused("select b,a from t group x", NAME);
        CHECK.refused("select a,sum(a) from t where x=5", NAME);
        CHECK.refused("select a,sum(a) from t where " + eleven + "=5", TYPE);
        CHECK.refused("select " + eleven + ",x from t", NAME);
        CHECK.refused("select " + eleven + ",-b from t", TYPE);
        CHECK.refused("select " + eleven + " from t where x=5", NAME);
        CHECK.refused("select " + eleven + " from t group x", NAME);
        CHECK.refused("select " + eleven + " from t order 2", TYPE);
        CHECK.refused("select " + eleven + " from t group a", TYPE);
        CHECK.refused("select a/0," + eleven + " from t", DEEP);
        // What rows give comes behind all of these.
        CHECK.refused("select a/0 from t where b=5", TYPE);
        CHECK.refused("select a/0 from t order 2", TYPE);
        CHECK.refused("select a/0,sum(a) from t", TYPE);
        CHECK.refused("select a/0 from t", ZERO);
    }

    private static void wantedByOne() {
        CHECK.says("A value by itself wants 1; - and not, aggregates, is null as much as theirs;");
        CHECK.fresh("create t(a int,b text)", "insert t(1,'x')", "select b from t");
        String[] values = {"1", "a", "t.a", "null", "-a", "--a", "(a)", "-(-(a))"};
        for (String value : values) {
            CHECK.fresh("create t(a int,b text)", "insert t(1,'x')", "select b from t");
            CHECK.act("select " + "a+(".repeat(9) + value + ")".repeat(9) + " from t", 1);
            CHECK.act("select -" + "(a+".repeat(9) + value + ")".repeat(9) + " from t", 1);
            CHECK.act("select max(" + "a+(".repeat(9) + value + ")".repeat(9) + ") from t", 1);
            CHECK.refused("select " + "a+(".repeat(10) + value + ")".repeat(10) + " from t", DEEP);
        }
        String ten = chain(10);
        CHECK.fresh("create t(a int,b text)", "insert t(1,'x')", "select b from t");
        CHECK.act("delete t where not not " + ten + "=9", 0);
        CHECK.act("delete t where " + ten + " is null", 0);
        CHECK.act("delete t where a=9 and not[a=" + chain(8) + "]", 0);
        CHECK.act("delete t where a=9 and " + chain(9) + "is null", 0);
        CHECK.refused("delete t where a=9 and " + ten + "is null", DEEP);
        CHECK.refused("delete t where a=9 and not a=" + chain(9), DEEP);
        CHECK.refused("delete t where not not " + chain(11) + "=9", DEEP);
        CHECK.refused("delete t where " + chain(11) + " is null", DEEP);
        CHECK.refused("select count(" + chain(11) + ") from t", DEEP);
        // What stands to the left of a sign is there as one value, whatever it is made of.
        for (String left : new String[] {"not a=1", "a is null", "not a is null", "not[not a=1]", "not[a=1 or a=2]"}) {
            CHECK.fresh("create t(a int,b text)", "insert t(1,'x')", "select b from t");
            CHECK.act("delete t where a=9 and[" + left + " and a=" + chain(7) + "]", 0);
            CHECK.refused("delete t where a=9 and[" + left + " and a=" + chain(8) + "]", DEEP);
        }
        CHECK.act("select a-(-a-" + chain(8) + ") from t", 1);
        CHECK.refused("select a-(-a-" + chain(9) + ") from t", DEEP);
    }

    private static void wantedByTwoSides() {
        CHECK.says("two sides as much as the left one, or one more than the right one.");
        String ten = chain(10);
        String nine = chain(9);
        String[] signs = {"+", "-", "*", "/"};
        for (String sign : signs) {
            CHECK.fresh("create t(a int,b text)", "insert t(1,'x')", "select b from t");
            CHECK.act("select " + ten + sign + "a from t", 1);
            CHECK.act("select a" + sign + nine + " from t", 1);
            CHECK.act("select " + ten + sign + nine + " from t", 1);
            CHECK.refused("select a" + sign + ten + " from t", DEEP);
            CHECK.refused("select a" + sign + "a" + sign + ten + " from t", DEEP);
        }
        for (String sign : SIGNS) {
            CHECK.fresh("create t(a int,b text)", "insert t(1,'x')", "select b from t");
            CHECK.act("select count(1) from t where " + ten + sign + nine, 1);
            CHECK.refused("select 1 from t where a" + sign + ten, DEEP);
        }
        for (String word : new String[] {" and ", " or "}) {
            CHECK.fresh("create t(a int,b text)", "insert t(1,'x')", "select b from t");
            CHECK.act("select count(1) from t where " + ten + "=1" + word + nine + "=1", 1);
            CHECK.act("select count(1) from t where a=1" + word + "a=1" + word + nine + "=1", 1);
            CHECK.refused("select 1 from t where a=1" + word + ten + "=1", DEEP);
            CHECK.refused("select 1 from t where a=1" + word + "[a=1" + word + nine + "=1]", DEEP);
            CHECK.refused("select 1 from t where a=1" + word + "[a=1" + word + "a=" + chain(8) + "]", DEEP);
            CHECK.act("select count(1) from t where a=1" + word + "[a=1" + word + "a=" + chain(7) + "]", 1);
        }
        // To the left any number of signs wants no more than two.
        CHECK.fresh("create t(a int,b text)", "insert t(1,'x')");
        CHECK.act("select a" + "+a".repeat(80) + " from t", 1);
        CHECK.act("select 1 from t where a=1" + "and a=1".repeat(20), 1);
    }

    /** An expression in brackets that wants so many values. */
    private static String chain(int wanted) {
        return "(a+".repeat(wanted - 1) + "(a)" + ")".repeat(wanted - 1);
    }
}
