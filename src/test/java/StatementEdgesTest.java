/** Terms: the grammar of statements; each method is of one sentence of the document. */
public final class StatementEdgesTest {
    private static final Check CHECK = new Check("StatementEdgesTest");

    public static void main(String[] args) {
        createColumns();
        insertValues();
        delete();
        update();
        selectItems();
        selectTables();
        selectTail();
        where();
        aggregates();
        places();
        expressions();
        expressionsAnyNumberOfTimes();
        conditions();
        conditionsAnyNumberOfTimes();
        twentyOpen();
        twentyOpenOfAllKinds();
        bracketsThatDoNotCount();
        openUntilTheEnd();
        CHECK.end();
    }

    /** One row, and a result: a statement that is refused must leave both. */
    private static void one() {
        CHECK.fresh("create t(a int,b text)", "insert t(5,'x')", "select b,a from t");
    }

    private static void createColumns() {
        CHECK.says("create NAME ( COLUMN {, COLUMN} ), a COLUMN: NAME int | NAME text; at most four "
            + "(a comma behind the fourth is wrong; so below)");
        CHECK.fresh("create t(a int)", "create u(a text)", "create v(a int,b text,c int)",
            "create w(a int,b text,c int,d text)");
        CHECK.act("insert w(1,'x',2,'y')", 1);
        CHECK.select("select d,c,b,a from w", "'y',2,'x',1");
        one();
        CHECK.refusedWord("create u()", 3);
        CHECK.refusedWord("create u", 2);
        CHECK.refusedWord("create u a int", 2);
        CHECK.refusedWord("create u(a)", 4);
        CHECK.refusedWord("create u(int)", 3);
        CHECK.refusedWord("create u(a null)", 4);
        CHECK.refusedWord("create u(a b)", 4);
        CHECK.refusedWord("create u(a int b text)", 5);
        CHECK.refusedWord("create u(a int,)", 6);
        CHECK.refusedWord("create u(,a int)", 3);
        CHECK.refusedWord("create u(a int", 5);
        CHECK.refusedWord("create u(a int]", 5);
        CHECK.refusedWord("create u(a int) u", 6);
        CHECK.refusedWord("create u(a int,b int,c int,d int,e int)", 14);
        CHECK.refusedWord("create u(a int,b int,c int,d int,)", 14);
        CHECK.refusedWord("create u(a int,b int,c int,d int", 14);
    }

    private static void insertValues() {
        CHECK.says("insert NAME ( VALUE {, VALUE} ), a VALUE: NUMBER | - NUMBER | TEXT | null; at most four");
        CHECK.fresh("create t(a int)", "create w(a int,b int,c text,d text)");
        CHECK.act("insert t(1)", 1);
        CHECK.act("insert w(1,-2,'x',null)", 1);
        CHECK.act("insert w(null,null,null,null)", 1);
        CHECK.act("insert w(-0,- 3,null,'zzzz')", 1);
        CHECK.table(1, "1,-2,'x',null|null,null,null,null|0,-3,null,'zzzz'");
        CHECK.refusedWord("insert w(1,2,'x','y',5)", 10);
        CHECK.refusedWord("insert w(1,2,'x','y',)", 10);
        CHECK.refusedWord("insert w(-1,-2,-3,-4,-5)", 14);
        CHECK.refusedWord("insert w(1,2,'x','y'", 10);
        one();
        CHECK.refusedWord("insert t()", 3);
        CHECK.refusedWord("insert t", 2);
        CHECK.refusedWord("insert t 5", 2);
        CHECK.refusedWord("insert t(,5)", 3);
        CHECK.refusedWord("insert t(5,)", 5);
        CHECK.refusedWord("insert t(5 'x')", 4);
        CHECK.refusedWord("insert t(5,'x'", 6);
        CHECK.refusedWord("insert t(5,'x'))", 7);
        CHECK.refusedWord("insert t(--5,'x')", 4);
        CHECK.refusedWord("insert t(+5,'x')", 3);
        CHECK.refusedWord("insert t(-'x','x')", 4);
        CHECK.refusedWord("insert t(-null,'x')", 4);
        CHECK.refusedWord("insert t(-,'x')", 4);
        CHECK.refusedWord("insert t((5),'x')", 3);
        CHECK.refusedWord("insert t(5+5,'x')", 4);
        CHECK.refusedWord("insert t(a,'x')", 3);
        CHECK.refusedWord("insert t(5,'x') where a=5", 7);
    }

    private static void delete() {
        CHECK.says("delete NAME WHERE?");
        one();
        CHECK.act("delete t where a=6", 0);
        CHECK.act("delete t", 1);
        one();
        CHECK.refusedWord("delete", 1);
        CHECK.refusedWord("delete from t", 1);
        CHECK.refusedWord("delete t,t", 2);
        CHECK.refusedWord("delete t.a", 2);
        CHECK.refusedWord("delete t a=5", 2);
        CHECK.refusedWord("delete t where", 3);
        CHECK.refusedWord("delete t where a=5 where a=5", 6);
        CHECK.refusedWord("delete t group a", 2);
        CHECK.refusedWord("delete t order 1", 2);
        CHECK.refusedWord("delete t where a=5 order 1", 6);
    }

    private static void update() {
        CHECK.says("update NAME set NAME = EXPRESSION WHERE?");
        one();
        CHECK.act("update t set a=a+1 where a=5", 1);
        CHECK.act("update t set b='y'", 1);
        CHECK.table(0, "6,'y'");
        one();
        CHECK.refusedWord("update t", 2);
        CHECK.refusedWord("update set a=5", 1);
        CHECK.refusedWord("update t a=5", 2);
        CHECK.refusedWord("update t set", 3);
        CHECK.refusedWord("update t set t.a=5", 4);
        CHECK.refusedWord("update t set a", 4);
        CHECK.refusedWord("update t set a 5", 4);
        CHECK.refusedWord("update t set a<=5", 4);
        CHECK.refusedWord("update t set a=", 5);
        CHECK.refusedWord("update t set a=where a=5", 5);
        CHECK.refusedWord("update t set a=sum(a)", 5);
        CHECK.refusedWord("update t set a=5,a=5", 6);
        CHECK.refusedWord("update t set a=5 a=5", 6);
        CHECK.refusedWord("update t set a=5 order 1", 6);
        CHECK.refusedWord("update t,t set a=5", 2);
    }

    private static void selectItems() {
        CHECK.says("At most four items.");
        one();
        CHECK.select("select a from t", "5");
        CHECK.select("select a,b,null,1 from t", "5,'x',null,1");
        CHECK.select("select sum(a),count(b),min(b),max(a) from t", "5,1,'x',5");
        CHECK.refusedWord("select a,b,a,b,a from t", 8);
        CHECK.refusedWord("select a,b,a,b, from t", 8);
        CHECK.refusedWord("select a,b,a,b,", 8);
        CHECK.refusedWord("select sum(a),sum(a),sum(a),sum(a),sum(a) from t", 20);
        CHECK.refusedWord("select from t", 1);
        CHECK.refusedWord("select ,a from t", 1);
        CHECK.refusedWord("select a,from t", 3);
        CHECK.refusedWord("select a,,b from t", 3);
        CHECK.refusedWord("select a b from t", 2);
        CHECK.refusedWord("select * from t", 1);
        CHECK.refusedWord("select", 1);
    }

    private static void selectTables() {
        CHECK.says("select ITEM {, ITEM} from NAME, or from NAME , NAME;");
        one();
        CHECK.act("select 1 from t", 1);
        CHECK.act("select 1 from t,t", 1);
        CHECK.refusedWord("select 1 from t,t,t", 6);
        CHECK.refusedWord("select 1 from t,", 5);
        CHECK.refusedWord("select 1 from ,t", 3);
        CHECK.refusedWord("select 1 from t t", 4);
        CHECK.refusedWord("select 1 from", 3);
        CHECK.refusedWord("select 1", 2);
        CHECK.refusedWord("select 1 t", 2);
        CHECK.refusedWord("select 1 from (t)", 3);
        CHECK.refusedWord("select 1 from t.a", 4);
    }

    private static void selectTail() {
        CHECK.says("WHERE?; then group PLACE, or nothing; then order NUMBER, order NUMBER desc, or nothing.");
        one();
        CHECK.act("select a from t where a=5 group a order 1 desc", 1);
        CHECK.act("select a from t where a=5 order 1", 1);
        CHECK.act("select a from t group t.a", 1);
        CHECK.act("select a from t group a order 1", 1);
        CHECK.refusedWord("select a from t group a where a=5", 6);
        CHECK.refusedWord("select a from t order 1 where a=5", 6);
        CHECK.refusedWord("select a from t order 1 group a", 6);
        CHECK.refusedWord("select a from t order 1 desc group a", 7);
        CHECK.refusedWord("select a from t group a group a", 6);
        CHECK.refusedWord("select a from t group", 5);
        CHECK.refusedWord("select a from t group 1", 5);
        CHECK.refusedWord("select a from t group (a)", 5);
        CHECK.refusedWord("select a from t group -a", 5);
        CHECK.refusedWord("select a from t group a+1", 6);
        CHECK.refusedWord("select a from t group a,b", 6);
        CHECK.refusedWord("select a from t order", 5);
        CHECK.refusedWord("select a from t order desc", 5);
        CHECK.refusedWord("select a from t order a", 5);
        CHECK.refusedWord("select a from t order -1", 5);
        CHECK.refusedWord("select a from t order (1)", 5);
        CHECK.refusedWord("select a from t order 1,1", 6);
        CHECK.refusedWord("select a from t order 1 order 1", 6);
        CHECK.refusedWord("select a from t order 1 desc desc", 7);
        CHECK.refusedWord("select a from t desc", 4);
    }

    private static void where() {
        CHECK.says("WHERE: where CONDITION.");
        one();
        CHECK.act("select a from t where a=5", 1);
        CHECK.refusedWord("select a from t where", 5);
        CHECK.refusedWord("select a from t where a", 6);
        CHECK.refusedWord("select a from t where 1", 6);
        CHECK.refusedWord("select a from t where (a=5)", 7);
        CHECK.refusedWord("select a from t where group a", 5);
        CHECK.refusedWord("select a from t where a=5,b='x'", 8);
        CHECK.refusedWord("select a where a=5", 2);
    }

    private static void aggregates() {
        CHECK.says("An ITEM: EXPRESSION, or an AGGREGATE: sum | count | min | max ( EXPRESSION ).");
        one();
        CHECK.select("select sum(a+1),count((a)),min(-a),max(b) from t", "6,1,-5,'x'");
        for (String word : new String[] {"sum", "count", "min", "max"}) {
            CHECK.refusedWord("select " + word + " from t", 2);
            CHECK.refusedWord("select " + word + "() from t", 3);
            CHECK.refusedWord("select " + word + "(a from t", 4);
            CHECK.refusedWord("select " + word + " a from t", 2);
            CHECK.refusedWord("select " + word + "(*) from t", 3);
            CHECK.refusedWord("select " + word + "(a,a) from t", 4);
            CHECK.refusedWord("select " + word + "(" + word + "(a)) from t", 3);
            CHECK.refusedWord("select " + word + "(a)+1 from t", 5);
            CHECK.refusedWord("select 1+" + word + "(a) from t", 3);
            CHECK.refusedWord("select -" + word + "(a) from t", 2);
            CHECK.refusedWord("select (" + word + "(a)) from t", 2);
            CHECK.refusedWord("select a from t where " + word + "(a)=5", 5);
            CHECK.refusedWord("update t set a=" + word + "(a)", 5);
        }
    }

    private static void places() {
        CHECK.says("A PLACE: NAME, or NAME . NAME.");
        one();
        CHECK.select("select a,t.a,t .b,t. b from t", "5,5,'x','x'");
        CHECK.refusedWord("select t.t.a from t", 4);
        CHECK.refusedWord("select t. from t", 3);
        CHECK.refusedWord("select .a from t", 1);
        CHECK.refusedWord("select t..a from t", 3);
        CHECK.refusedWord("select t.1 from t", 3);
        CHECK.refusedWord("select 1.a from t", 2);
        CHECK.refusedWord("select t.(a) from t", 3);
        CHECK.refusedWord("select (t).a from t", 4);
    }

    private static void expressions() {
        CHECK.says("EXPRESSION: TERM {+ TERM | - TERM}; TERM: FACTOR {* FACTOR | / FACTOR}; "
            + "FACTOR: NUMBER | TEXT | null | PLACE | ( EXPRESSION ) | - FACTOR.");
        one();
        CHECK.select("select 7,'q',null,t.a from t", "7,'q',null,5");
        CHECK.select("select (a),-a,-(-7),--a from t", "5,-5,7,5");
        CHECK.select("select 2+3*4,(2+3)*4,20-5-3,20-(5-3) from t", "14,20,12,18");
        CHECK.select("select 60/6/2,60/(6/2),-2*3,2*-3 from t", "5,20,-6,-6");
        CHECK.select("select 7/2*2,2*7/2,-7/2,1-2+3 from t", "6,7,-3,2");
        CHECK.fresh("create t(a int,b text)", "insert t(5,'x')", "select b,a from t");
        CHECK.refusedWord("select +a from t", 1);
        CHECK.refusedWord("select a+ from t", 3);
        CHECK.refusedWord("select a++a from t", 3);
        CHECK.refusedWord("select a-*a from t", 3);
        CHECK.refusedWord("select a*/a from t", 3);
        CHECK.refusedWord("select *a from t", 1);
        CHECK.refusedWord("select - from t", 2);
        CHECK.refusedWord("select () from t", 2);
        CHECK.refusedWord("select (a from t", 3);
        CHECK.refusedWord("select a) from t", 2);
        CHECK.refusedWord("select (a] from t", 3);
        CHECK.refusedWord("select [a] from t", 1);
        CHECK.refusedWord("select a 1 from t", 2);
        CHECK.refusedWord("select a=1 from t", 2);
        CHECK.refusedWord("select a is null from t", 2);
        CHECK.refusedWord("select not a from t", 1);
    }

    private static void expressionsAnyNumberOfTimes() {
        CHECK.says("{} any number of times");
        CHECK.fresh("create t(a int)", "insert t(1)");
        String sum = "select a" + "+a".repeat(92) + "  from t";
        CHECK.due("signs of the longest sum", sum.length(), 200);
        CHECK.act(sum, 1);
        CHECK.value(0, 0, 93);
        CHECK.fresh("create t(a int)", "insert t(1)");
        CHECK.act("select a" + "*a/a".repeat(46) + "  from t", 1);
        CHECK.value(0, 0, 1);
        CHECK.refusedWord("select a" + "+a".repeat(92) + "+", 1 + 2 * 93);
    }

    private static void conditions() {
        CHECK.says("CONDITION: BOTH {or BOTH}; BOTH: SINGLE {and SINGLE}; SINGLE: not SINGLE | [ CONDITION ] | "
            + "EXPRESSION is null | EXPRESSION SIGN EXPRESSION, a SIGN: = <> < > <= >=.");
        one();
        CHECK.act("delete t where 1=1 and 1=2 or 1=2 and 1=1", 0);
        CHECK.act("delete t where 1=2 and[1=2 or 1=1]", 0);
        CHECK.act("delete t where[1=1 or 1=1]and 1=2", 0);
        CHECK.act("delete t where not 1=1 and 1=2", 0);
        CHECK.act("select a from t where 1=2 and 1=2 or 1=1", 1);
        CHECK.act("select a from t where not 1=1 or 1=1", 1);
        CHECK.act("select a from t where not[1=1 and 1=2]and not not[a+1=6]", 1);
        CHECK.act("select a from t where a+1 is null or(a)*2>=10", 1);
        one();
        CHECK.refusedWord("delete t where a=", 5);
        CHECK.refusedWord("delete t where =5", 3);
        CHECK.refusedWord("delete t where a=5=5", 6);
        CHECK.refusedWord("delete t where a is", 5);
        CHECK.refusedWord("delete t where a is not null", 5);
        CHECK.refusedWord("delete t where a is 5", 5);
        CHECK.refusedWord("delete t where a null", 4);
        CHECK.refusedWord("delete t where a is null is null", 6);
        CHECK.refusedWord("delete t where a=5 is null", 6);
        CHECK.refusedWord("delete t where not", 4);
        CHECK.refusedWord("delete t where []", 4);
        CHECK.refusedWord("delete t where [a]", 5);
        CHECK.refusedWord("delete t where [a=5", 7);
        CHECK.refusedWord("delete t where [a=5)", 7);
        CHECK.refusedWord("delete t where a=5]", 6);
        CHECK.refusedWord("delete t where [a=5]=5", 8);
        CHECK.refusedWord("delete t where and a=5", 3);
        CHECK.refusedWord("delete t where a=5 and", 7);
        CHECK.refusedWord("delete t where a=5 or", 7);
        CHECK.refusedWord("delete t where a=5 and or a=5", 7);
        CHECK.refusedWord("delete t where a=5 not a=5", 6);
        CHECK.refusedWord("delete t where a=not 5", 5);
        CHECK.refusedWord("delete t where a=[5]", 5);
        CHECK.refusedWord("delete t where a=5 a=5", 6);
    }

    private static void conditionsAnyNumberOfTimes() {
        CHECK.says("{} any number of times");
        CHECK.fresh("create t(a int)", "insert t(1)");
        CHECK.act("select a from t where a=1" + "or a=2".repeat(29), 1);
        CHECK.fresh("create t(a int)", "insert t(1)");
        CHECK.act("select a from t where a=1" + "and a=1".repeat(25), 1);
        CHECK.refusedWord("delete t where a=2" + "and a=2".repeat(25) + "and", 3 + 4 * 26);
        CHECK.refusedWord("delete t where a=2" + "or a=2".repeat(29) + "or a", 3 + 4 * 30 + 1);
    }

    private static void twentyOpen() {
        CHECK.says("At most 20 of ( (but of aggregates, create, insert), [, not, and - before a factor "
            + "stand open at once");
        for (String item : new String[] {"select %s from t", "select 1,2,3,%s from t", "select sum(%s) from t",
            "update t set a=%s", "delete t where %s=9", "delete t where 9=%s", "delete t where %s is null"}) {
            CHECK.fresh("create t(a int)", "insert t(1)");
            CHECK.act(item.replace("%s", nested("(", 20, "a", ")")), item.startsWith("delete") ? 0 : 1);
            CHECK.act(item.replace("%s", nested("-", 20, "a", "")), item.startsWith("delete") ? 0 : 1);
            int before = wordsBefore(item);
            CHECK.refusedWord(item.replace("%s", nested("(", 21, "a", ")")), before + 20);
            CHECK.refusedWord(item.replace("%s", nested("-", 21, "a", "")), before + 20);
            CHECK.refusedWord(item.replace("%s", nested("(", 60, "a", ")")), before + 20);
        }
        for (String condition : new String[] {"delete t where %s", "update t set a=1 where %s",
            "select a from t where %s", "delete t where 2=1 or %s"}) {
            int want = condition.startsWith("delete") ? 0 : 1;
            String right = want == 1 ? "a=1" : "a=2";
            CHECK.fresh("create t(a int)", "insert t(1)");
            CHECK.act(condition.replace("%s", nested("[", 20, right, "]")), want);
            CHECK.act(condition.replace("%s", nested("not ", 20, right, "")), want);
            int before = wordsBefore(condition);
            CHECK.refusedWord(condition.replace("%s", nested("[", 21, right, "]")), before + 20);
            CHECK.refusedWord(condition.replace("%s", nested("not ", 21, right, "")), before + 20);
            CHECK.refusedWord(condition.replace("%s", "[".repeat(150)), before + 20);
        }
    }

    private static void twentyOpenOfAllKinds() {
        CHECK.says("one more is a wrong word.");
        CHECK.fresh("create t(a int)", "insert t(1)");
        String open = "[not".repeat(8);
        String close = "]".repeat(8);
        CHECK.act("delete t where " + open + "(-(-a))=2" + close, 0);
        CHECK.act("delete t where " + open + "[not[not a=2]]" + close, 0);
        CHECK.act("delete t where " + open + " 2=(-(-a))" + close, 0);
        CHECK.refusedWord("delete t where " + open + "(-(-(a)))=2" + close, 3 + 20);
        CHECK.refusedWord("delete t where " + open + "(-(--a))=2" + close, 3 + 20);
        CHECK.refusedWord("delete t where " + open + " 2=(-(-(a)))" + close, 3 + 22);
        CHECK.refusedWord("delete t where " + open + "[not[not[a=2]]]" + close, 3 + 20);
        CHECK.refusedWord("delete t where " + open + "[not[not not a=2]]" + close, 3 + 20);
        CHECK.refusedWord("delete t where " + open + "[not[not -a=2]]" + close, 3 + 20);
        CHECK.refusedWord("delete t where " + open + "[not[not(a)=2]]" + close, 3 + 20);
        CHECK.act("delete t where " + open + "[not[not a is null or(a)=1]]" + close, 0);
        CHECK.refusedWord("delete t where " + open + "[not[not a is null or((a))=1]]" + close, 3 + 20 + 5);
    }

    private static void bracketsThatDoNotCount() {
        CHECK.says("(but of aggregates, create, insert)");
        for (String word : new String[] {"sum", "count", "min", "max"}) {
            CHECK.fresh("create t(a int)", "insert t(-1)");
            CHECK.act("select " + word + "(" + nested("(", 20, "a", ")") + ") from t", 1);
            CHECK.act("select " + word + "(" + nested("-", 20, "a", "") + ") from t", 1);
            CHECK.refusedWord("select " + word + "(" + nested("(", 21, "a", ")") + ") from t", 3 + 20);
            CHECK.refusedWord("select 1," + word + "(" + nested("-", 21, "a", "") + ") from t", 5 + 20);
        }
    }

    private static void openUntilTheEnd() {
        CHECK.says("(not and - until what they are before ends)");
        CHECK.fresh("create t(a int)", "insert t(1)");
        CHECK.act("select " + "-a+".repeat(30) + "-a from t", 1);
        CHECK.act("select " + "-".repeat(20) + "a*" + "-".repeat(20) + "a-" + "-".repeat(20) + "a from t", 1);
        CHECK.value(0, 0, 0);
        CHECK.act("select " + "-".repeat(20) + "a," + nested("(", 20, "a", ")") + ",-a from t", 1);
        CHECK.fresh("create t(a int)", "insert t(1)");
        CHECK.act("delete t where " + "not a=1 and ".repeat(13) + "not a=1", 0);
        CHECK.act("delete t where " + "not ".repeat(20) + "a=2 or " + "not ".repeat(20) + "a=2", 0);
        CHECK.fresh("create t(a int)", "insert t(1)");
        CHECK.act("delete t where " + nested("[", 20, "a=2", "]") + "and" + nested("[", 20, "a=2", "]"), 0);
        CHECK.act("delete t where " + "-".repeat(20) + "a=-" + nested("(", 19, "a", ")"), 0);
        // They are still open within what they are before.
        CHECK.act("select " + "-".repeat(10) + "(a+" + "-".repeat(9) + "a) from t", 1);
        CHECK.refusedWord("select " + "-".repeat(10) + "(a+" + "-".repeat(10) + "a) from t", 1 + 11 + 2 + 9);
        CHECK.refusedWord("select -(a+" + nested("(", 19, "a", ")") + ") from t", 1 + 4 + 18);
        CHECK.refusedWord("delete t where not[a=2 or " + "not ".repeat(19) + "a=2]", 3 + 6 + 18);
    }

    private static int wordsBefore(String frame) {
        String start = frame.substring(0, frame.indexOf("%s"));
        return start.replaceAll("([(,=])", " $1 ").trim().split(" +").length;
    }

    private static String nested(String open, int times, String inside, String close) {
        return open.repeat(times) + inside + close.repeat(times);
    }
}
