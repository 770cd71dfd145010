/** Promise 3: aggregates, groups, order. */
public final class GroupsTest {
    private static final int OVERFLOW = -1005;
    private static final Check CHECK = new Check("GroupsTest");

    public static void main(String[] args) {
        aggregates();
        aggregatesOfNothing();
        sums();
        groups();
        groupsOfNull();
        groupsOfPairs();
        order();
        orderIsStable();
        orderOfTexts();
        orderOfGroups();
        CHECK.end();
    }

    private static void aggregates() {
        CHECK.fresh("create t(a int,b text)", "insert t(3,'c')", "insert t(null,'a')",
            "insert t(-5,null)", "insert t(3,'ab')");
        CHECK.select("select count(a),sum(a),min(a),max(a) from t", "3,1,-5,3");
        CHECK.select("select count(b),min(b),max(b),count(1) from t", "3,'a','c',4");
        CHECK.select("select sum(a*2+1),max(-a),min(-a) from t", "5,5,-3");
        CHECK.select("select count(null),count('x'),sum(1) from t where a=3", "0,2,2");
        CHECK.select("select max(a) from t where a<0", "-5");
        CHECK.select("select min(a),sum(a) from t where b is null", "-5,-5");
        CHECK.select("select count(1),min('x') from t,t", "16,'x'");
    }

    private static void aggregatesOfNothing() {
        CHECK.fresh("create t(a int,b text)");
        CHECK.select("select count(a),sum(a),min(a),max(b) from t", "0,null,null,null");
        CHECK.act("select a,sum(a) from t group a", 0);
        CHECK.act("insert t(null,null)", 1);
        CHECK.select("select count(a),sum(a),min(b),max(a) from t", "0,null,null,null");
        CHECK.select("select b,count(a),sum(a),min(a) from t group b", "null,0,null,null");
        CHECK.select("select sum(null),min(null),max(null) from t", "null,null,null");
        CHECK.select("select count(1),max(1) from t where a=1", "0,null");
        CHECK.act("insert t(0,null)", 1);
        CHECK.select("select count(a),sum(a),min(a),max(a) from t", "1,0,0,0");
    }

    private static void sums() {
        CHECK.fresh("create t(a int)", "insert t(2147483647)", "insert t(1)", "insert t(-1)");
        CHECK.select("select sum(a) from t", "2147483647");
        CHECK.act("select sum(a) from t where a>0", OVERFLOW);
        CHECK.select("select sum(-a-1) from t where a>1", "-2147483648");
        CHECK.act("select sum(-a-1) from t", OVERFLOW);
        CHECK.select("select max(a),count(a) from t where a>0", "2147483647,2");
        CHECK.act("select sum(1),sum(a) from t where a>0", OVERFLOW);
        CHECK.act("select sum(2147483647) from t", OVERFLOW);
        CHECK.result("2147483647,2");
        CHECK.act("select a,sum(2147483647) from t group a", 3);
        CHECK.act("insert t(1)", 1);
        CHECK.act("select a,sum(2147483647) from t group a", OVERFLOW);
    }

    private static void groups() {
        CHECK.fresh("create t(a int,b text)", "insert t(3,'x')", "insert t(1,'y')",
            "insert t(3,'y')", "insert t(2,'x')", "insert t(1,'x')");
        CHECK.select("select a,count(b),min(b) from t group a", "3,2,'x'|1,2,'x'|2,1,'x'");
        CHECK.select("select b,sum(a),max(a),min(a) from t group b", "'x',6,3,1|'y',4,3,1");
        CHECK.select("select b from t group b", "'x'|'y'");
        CHECK.select("select t.b,sum(a) from t where a<3 group b", "'y',1|'x',3");
        CHECK.act("select a from t where a>3 group a", 0);
        CHECK.rows(0);
        CHECK.items(1);
    }

    private static void groupsOfNull() {
        CHECK.fresh("create t(a int,b int)", "insert t(null,1)", "insert t(0,2)",
            "insert t(null,4)", "insert t(0,null)", "insert t(5,null)");
        CHECK.select("select a,sum(b),count(b) from t group a", "null,5,2|0,2,1|5,null,0");
        CHECK.select("select b,count(a) from t group b", "1,0|2,1|4,0|null,2");
        CHECK.select("select a from t group a order 1 desc", "5|0|null");
    }

    private static void groupsOfPairs() {
        CHECK.fresh("create t(a int)", "create u(b text,c int)", "insert t(1)", "insert t(2)",
            "insert u('x',10)", "insert u('y',20)", "insert u('x',30)");
        CHECK.select("select b,sum(a*c),count(1) from t,u group u.b", "'x',120,4|'y',60,2");
        CHECK.select("select a,sum(c),min(b) from t,u where c>10 group a", "1,50,'x'|2,50,'x'");
        CHECK.select("select sum(a+c) from t,u", "129");
        CHECK.select("select count(1) from u,u", "9");
    }

    private static void order() {
        CHECK.fresh("create t(a int,b int)", "insert t(3,1)", "insert t(null,2)", "insert t(-7,3)",
            "insert t(0,4)", "insert t(5,5)");
        CHECK.select("select a from t order 1", "null|-7|0|3|5");
        CHECK.select("select a from t order 1 desc", "5|3|0|-7|null");
        CHECK.select("select b,a from t order 2", "2,null|3,-7|4,0|1,3|5,5");
        CHECK.select("select b,-a from t order 2 desc", "3,7|4,0|1,-3|5,-5|2,null");
        CHECK.select("select b from t order 1 desc", "5|4|3|2|1");
        CHECK.select("select b from t where a is null order 1", "2");
        CHECK.act("select b from t where a=99 order 1", 0);
        CHECK.fresh("create t(a int)", "insert t(2147483647)", "insert t(-2147483647)", "insert t(1)");
        CHECK.select("select -a-1 from t order 1", "-2147483648|-2|2147483646");
        CHECK.select("select a from t order 1", "-2147483647|1|2147483647");
    }

    private static void orderIsStable() {
        CHECK.fresh("create t(a int,b int)", "insert t(1,1)", "insert t(0,2)", "insert t(1,3)",
            "insert t(null,4)", "insert t(0,5)", "insert t(null,6)", "insert t(1,7)");
        CHECK.select("select b from t order 1", "1|2|3|4|5|6|7");
        CHECK.select("select a,b from t order 1", "null,4|null,6|0,2|0,5|1,1|1,3|1,7");
        CHECK.select("select a,b from t order 1 desc", "1,1|1,3|1,7|0,2|0,5|null,4|null,6");
        CHECK.fresh("create t(a int,b int)", "insert t(1,1)", "insert t(0,2)", "insert t(1,3)",
            "create u(c int)", "insert u(8)", "insert u(8)", "insert u(7)");
        CHECK.select("select a,b,c from t,u order 3", "1,1,7|0,2,7|1,3,7|1,1,8|1,1,8|0,2,8|0,2,8|1,3,8|1,3,8");
        CHECK.select("select a,b,c from t,u order 1 desc",
            "1,1,8|1,1,8|1,1,7|1,3,8|1,3,8|1,3,7|0,2,8|0,2,8|0,2,7");
    }

    private static void orderOfTexts() {
        CHECK.fresh("create t(a text)", "insert t('b')", "insert t('ab')", "insert t(null)",
            "insert t('a')", "insert t('zzzz')", "insert t('abc')", "insert t('az')");
        CHECK.select("select a from t order 1", "null|'a'|'ab'|'abc'|'az'|'b'|'zzzz'");
        CHECK.select("select a from t order 1 desc", "'zzzz'|'b'|'az'|'abc'|'ab'|'a'|null");
    }

    private static void orderOfGroups() {
        CHECK.fresh("create t(a int,b int)", "insert t(3,1)", "insert t(1,5)", "insert t(3,1)",
            "insert t(2,null)", "insert t(1,5)", "insert t(4,2)");
        CHECK.select("select a,sum(b) from t group a order 1", "1,10|2,null|3,2|4,2");
        CHECK.select("select a,sum(b) from t group a order 2", "2,null|3,2|4,2|1,10");
        CHECK.select("select a,sum(b) from t group a order 2 desc", "1,10|3,2|4,2|2,null");
        CHECK.select("select a,count(b) from t group a order 2 desc", "3,2|1,2|4,1|2,0");
        CHECK.select("select max(a) from t order 1 desc", "4");
    }
}
