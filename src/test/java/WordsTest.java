/** Promise 3: words, and the number of the first one that is wrong. */
public final class WordsTest {
    private static final Check CHECK = new Check("WordsTest");

    public static void main(String[] args) {
        endsTooEarly();
        signs();
        numbers();
        texts();
        names();
        reserved();
        lists();
        tails();
        expressions();
        conditions();
        collectedIsGone();
        CHECK.end();
    }

    private static void endsTooEarly() {
        String[] statements = {"create t ( a int , b text )", "insert t ( - 1 , 'a' , null )",
            "delete t where a = 1", "update t set a = b + 1 where not a is null",
            "select sum ( a ) , 1 from t , u where [ a < 1 ] group t . a order 1 desc"};
        for (String statement : statements) {
            String[] words = statement.split(" ");
            StringBuilder start = new StringBuilder();
            CHECK.fresh();
            for (int n = 0; n < words.length; n++) {
                boolean isWhole = isWhole(statement, n);
                CHECK.act(start.toString(), isWhole ? -1001 : -1 - n);
                start.append(words[n]).append(' ');
                if (start.length() > 30) {
                    CHECK.fresh();
                }
            }
        }
    }

    /** Whether the first n words are a statement by themselves. */
    private static boolean isWhole(String statement, int n) {
        boolean isDelete = statement.startsWith("delete") && n == 2;
        boolean isUpdate = statement.startsWith("update") && (n == 6 || n == 8);
        boolean isSelect = statement.startsWith("select")
            && (n == 9 || n == 11 || n == 17 || n == 19 || n == 21 || n == 23);
        return isDelete || isUpdate || isSelect;
    }

    private static void signs() {
        CHECK.fresh("create t(a int)", "insert t(5)");
        CHECK.act("", -1);
        CHECK.act("    ", -1);
        CHECK.wrongWord("!", 0);
        CHECK.wrongWord("select a from t where a!=1", 6);
        CHECK.wrongWord("select A from t", 1);
        CHECK.wrongWord("Select a from t", 0);
        CHECK.wrongWord("select a from t;", 4);
        CHECK.wrongWord("select a_b from t", 2);
        CHECK.wrongWord("select {a} from t", 1);
        CHECK.wrongWord("select \"a\" from t", 1);
        CHECK.act("  select  a  from  t  where  a  <=  5  ", 1);
        CHECK.act("select a from t where a<=5and a>=5and a<>6", 1);
        CHECK.wrongWord("select a from t where a< =5", 7);
        CHECK.wrongWord("select a from t where a=<5", 7);
        CHECK.fresh("create t(a int)", "insert t(5)");
        CHECK.wrongWord("select a from t where a> =5", 7);
        CHECK.wrongWord("select a from t where a=>5", 7);
        CHECK.wrongWord("select a from t where a< >5", 7);
        CHECK.wrongWord("select a from t where a><5", 7);
        CHECK.wrongWord("select a from t where a<>=5", 7);
        CHECK.wrongWord("select a from t where a==5", 7);
        CHECK.wrongWord("select a from t where a<=>5", 7);
        CHECK.act("select(a)from t where[a=5]", 1);
        CHECK.act("select a*2-1/1+0from t", 1);
        CHECK.wrongWord("sel ect a from t", 0);
        CHECK.wrongWord("selecta from t", 0);
        CHECK.wrongWord("select a fromt", 2);
    }

    private static void numbers() {
        CHECK.fresh("create t(a int)");
        CHECK.act("insert t(2147483647)", 1);
        CHECK.wrongWord("insert t(2147483648)", 3);
        CHECK.act("insert t(-2147483647)", 1);
        CHECK.wrongWord("insert t(-2147483648)", 4);
        CHECK.wrongWord("insert t(9999999999)", 3);
        CHECK.wrongWord("insert t(4294967297)", 3);
        CHECK.wrongWord("insert t(10000000000)", 3);
        CHECK.act("insert t(0000000012)", 1);
        CHECK.wrongWord("insert t(00000000012)", 3);
        CHECK.wrongWord("insert t(18446744073709551617)", 3);
        CHECK.wrongWord("insert t(1.5)", 4);
        CHECK.wrongWord("insert t(1 5)", 4);
        CHECK.wrongWord("insert t(5a)", 4);
        CHECK.act("insert t(- 0)", 1);
        CHECK.table(0, "2147483647|-2147483647|12|0");
        CHECK.fresh("create t(a int)");
        CHECK.wrongWord("select 2147483648 from t", 1);
        CHECK.wrongWord("select -2147483648 from t", 2);
        CHECK.wrongWord("select a from t order 2147483648", 5);
        CHECK.act("select a from t order 0000000001", 0);
    }

    private static void texts() {
        CHECK.fresh("create t(a text)");
        CHECK.act("insert t('a')", 1);
        CHECK.act("insert t('zzzz')", 1);
        CHECK.wrongWord("insert t('abcde')", 3);
        CHECK.wrongWord("insert t('')", 3);
        CHECK.wrongWord("insert t('A')", 3);
        CHECK.wrongWord("insert t('a b')", 3);
        CHECK.wrongWord("insert t(' a')", 3);
        CHECK.wrongWord("insert t('1')", 3);
        CHECK.wrongWord("insert t('a)", 3);
        CHECK.wrongWord("insert t('", 3);
        CHECK.wrongWord("insert t(a')", 3);
        CHECK.wrongWord("insert t('a'')", 4);
        CHECK.wrongWord("insert t(-'a')", 4);
        CHECK.act("insert t('null')", 1);
        CHECK.table(0, "'a'|'zzzz'|'null'");
    }

    private static void names() {
        CHECK.fresh();
        CHECK.act("create abcdef(ghijkl int)", 0);
        CHECK.wrongWord("create abcdefg(a int)", 1);
        CHECK.wrongWord("create t(abcdefg int)", 3);
        CHECK.wrongWord("create t(a int,abcdefghijklmnopqrstuvwxyz int)", 6);
        CHECK.wrongWord("create 1(a int)", 1);
        CHECK.wrongWord("create 't'(a int)", 1);
        CHECK.wrongWord("create t(a1 int)", 4);
        CHECK.act("select abcdef.ghijkl from abcdef", 0);
        CHECK.wrongWord("select abcdef.ghijklm from abcdef", 3);
        CHECK.wrongWord("select a.b.c from t", 4);
        CHECK.wrongWord("select a. from t", 3);
        CHECK.wrongWord("select .a from t", 1);
        CHECK.wrongWord("update t set t.a=1", 4);
        CHECK.wrongWord("update t.a set a=1", 2);
        CHECK.wrongWord("delete t.a", 2);
        CHECK.wrongWord("select a from t.a", 4);
    }

    private static void reserved() {
        String[] reserved = {"create", "insert", "delete", "update", "set", "select", "from",
            "where", "group", "order", "desc", "int", "text", "null", "is", "and", "or", "not",
            "sum", "count", "min", "max"};
        for (String word : reserved) {
            CHECK.fresh();
            CHECK.wrongWord("create " + word + "(a int)", 1);
            CHECK.wrongWord("create t(" + word + " int)", 3);
            CHECK.wrongWord("delete " + word, 1);
            CHECK.wrongWord("select t." + word + " from t", 3);
            CHECK.act("select 1+" + word + " from t", word.equals("null") ? -1001 : -4);
            String longer = (word + "xxxxx").substring(0, word.length() < 6 ? word.length() + 1 : 5);
            CHECK.act("create " + longer + "(" + longer + " int)", 0);
        }
        CHECK.fresh();
        CHECK.act("create by(insertx int)", -4);
        CHECK.act("create by(as int,nul int,nulls int,i int)", 0);
        CHECK.wrongWord("select as from by group by as", 6);
    }

    private static void lists() {
        CHECK.fresh();
        CHECK.wrongWord("create t()", 3);
        CHECK.wrongWord("create t(a)", 4);
        CHECK.wrongWord("create t(a int b int)", 5);
        CHECK.wrongWord("create t(a int,)", 6);
        CHECK.wrongWord("create t a int", 2);
        CHECK.wrongWord("create t(a int,b int,c int,d int,e int)", 14);
        CHECK.wrongWord("create t(a int,b int,c int,d int,", 14);
        CHECK.wrongWord("create t(a int))", 6);
        CHECK.wrongWord("create t(a int) where 1=1", 6);
        CHECK.act("create t(a int,b int,c int,d int)", 0);
        CHECK.wrongWord("insert t()", 3);
        CHECK.wrongWord("insert t(1,2,3,4,5)", 10);
        CHECK.wrongWord("insert t(1,2,3,4,", 10);
        CHECK.wrongWord("insert t(1+1)", 4);
        CHECK.wrongWord("insert t(--1)", 4);
        CHECK.fresh("create t(a int,b int,c int,d int)");
        CHECK.wrongWord("insert t((1))", 3);
        CHECK.wrongWord("insert t(-null)", 4);
        CHECK.wrongWord("insert t(a)", 3);
        CHECK.wrongWord("insert t(1,)", 5);
        CHECK.wrongWord("insert t(1) where a=1", 5);
        CHECK.act("insert t(1,2,3,4)", 1);
        CHECK.act("select a,b,c,d from t", 1);
        CHECK.wrongWord("select a,b,c,d,a from t", 8);
        CHECK.wrongWord("select a,b,c,d, from t", 8);
        CHECK.wrongWord("select ,a from t", 1);
        CHECK.wrongWord("select from t", 1);
        CHECK.wrongWord("select a b from t", 2);
        CHECK.wrongWord("select * from t", 1);
        CHECK.wrongWord("select a from t,t,t", 6);
        CHECK.wrongWord("select a from t,", 5);
        CHECK.wrongWord("select a from ,t", 3);
    }

    private static void tails() {
        CHECK.fresh("create t(a int)");
        CHECK.wrongWord("select a from t order a", 5);
        CHECK.wrongWord("select a from t order -1", 5);
        CHECK.wrongWord("select a from t order", 5);
        CHECK.wrongWord("select a from t order 1,2", 6);
        CHECK.wrongWord("select a from t order 1 desc desc", 7);
        CHECK.wrongWord("select a from t desc", 4);
        CHECK.wrongWord("select a from t order 1 group a", 6);
        CHECK.wrongWord("select a from t group a where a=1", 6);
        CHECK.wrongWord("select a from t group", 5);
        CHECK.wrongWord("select a from t group 1", 5);
        CHECK.wrongWord("select a from t group (a)", 5);
        CHECK.wrongWord("select a from t group a,a", 6);
        CHECK.wrongWord("select a from t group a+1", 6);
        CHECK.fresh("create t(a int)");
        CHECK.wrongWord("select a from t where", 5);
        CHECK.wrongWord("select a from t where group a", 5);
        CHECK.wrongWord("select a where a=1", 2);
        CHECK.wrongWord("delete t group a", 2);
        CHECK.wrongWord("delete t order 1", 2);
        CHECK.wrongWord("delete from t", 1);
        CHECK.wrongWord("update t a=1", 2);
        CHECK.wrongWord("update t set a", 4);
        CHECK.wrongWord("update t set a<1", 4);
        CHECK.wrongWord("update t set a=", 5);
        CHECK.wrongWord("update t set a=sum(a)", 5);
        CHECK.wrongWord("update t set a=1,a=2", 6);
        CHECK.wrongWord("update t set a=1 order 1", 6);
        CHECK.wrongWord("a", 0);
        CHECK.wrongWord("where", 0);
    }

    private static void expressions() {
        CHECK.fresh("create t(a int)");
        CHECK.wrongWord("select +a from t", 1);
        CHECK.wrongWord("select a+ from t", 3);
        CHECK.wrongWord("select a*/a from t", 3);
        CHECK.wrongWord("select (a from t", 3);
        CHECK.wrongWord("select a) from t", 2);
        CHECK.wrongWord("select () from t", 2);
        CHECK.wrongWord("select - from t", 2);
        CHECK.wrongWord("select [a] from t", 1);
        CHECK.wrongWord("select (a=1) from t", 3);
        CHECK.wrongWord("select a=1 from t", 2);
        CHECK.wrongWord("select not a from t", 1);
        CHECK.wrongWord("select sum from t", 2);
        CHECK.wrongWord("select sum() from t", 3);
        CHECK.wrongWord("select sum(a from t", 4);
        CHECK.wrongWord("select sum(a,a) from t", 4);
        CHECK.wrongWord("select sum(sum(a)) from t", 3);
        CHECK.fresh("create t(a int)");
        CHECK.wrongWord("select sum(a)+1 from t", 5);
        CHECK.wrongWord("select 1+sum(a) from t", 3);
        CHECK.wrongWord("select (sum(a)) from t", 2);
        CHECK.wrongWord("select -sum(a) from t", 2);
        CHECK.wrongWord("select count(*) from t", 3);
        CHECK.wrongWord("select sum[a] from t", 2);
        CHECK.act("select a - -1 from t", 0);
        CHECK.act("select a--1 from t", 0);
        CHECK.act("select -(-(a)) from t", 0);
        CHECK.act("select a*-a/-(a) from t", 0);
        CHECK.wrongWord("select a-*1 from t", 3);
        CHECK.wrongWord("select a 1 from t", 2);
    }

    private static void conditions() {
        CHECK.fresh("create t(a int)");
        CHECK.wrongWord("delete t where a", 4);
        CHECK.wrongWord("delete t where a=", 5);
        CHECK.wrongWord("delete t where a=1=1", 6);
        CHECK.wrongWord("delete t where (a=1)", 5);
        CHECK.wrongWord("delete t where [a=1", 7);
        CHECK.wrongWord("delete t where [a=1)", 7);
        CHECK.wrongWord("delete t where [a]", 5);
        CHECK.wrongWord("delete t where []", 4);
        CHECK.wrongWord("delete t where [a=1]=1", 8);
        CHECK.wrongWord("delete t where a is not null", 5);
        CHECK.wrongWord("delete t where a is", 5);
        CHECK.wrongWord("delete t where a is 1", 5);
        CHECK.wrongWord("delete t where a is null is null", 6);
        CHECK.wrongWord("delete t where not", 4);
        CHECK.wrongWord("delete t where and a=1", 3);
        CHECK.wrongWord("delete t where a=1 and", 7);
        CHECK.wrongWord("delete t where a=1 or or a=1", 7);
        CHECK.fresh("create t(a int)");
        CHECK.wrongWord("delete t where a=not 1", 5);
        CHECK.wrongWord("delete t where sum(a)=1", 3);
        CHECK.wrongWord("delete t where a=1 a=1", 6);
        CHECK.wrongWord("delete t where a=[1]", 5);
        CHECK.act("delete t where not not[not a=1]or not[a is null]and(a)+1 is null", 0);
        CHECK.act("delete t where[[a=1]and[a=1]]or a<1", 0);
    }

    private static void collectedIsGone() {
        CHECK.fresh();
        CHECK.act("creat", -1);
        CHECK.act("e t(a int)", -1);
        CHECK.act("create t(a int)", 0);
        CHECK.actAlone(-1);
    }
}
