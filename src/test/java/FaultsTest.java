/** Promise 3: faults of names, types, counts and room, and the order in which they are looked for. */
public final class FaultsTest {
    private static final int NAME = -1001;
    private static final int TYPE = -1002;
    private static final int TAKEN = -1003;
    private static final int ZERO = -1004;
    private static final int FULL = -1006;
    private static final int COUNT = -1007;
    private static final Check CHECK = new Check("FaultsTest");

    public static void main(String[] args) {
        create();
        insert();
        tables();
        places();
        types();
        nullHasNoType();
        orderOfTheText();
        update();
        groups();
        orders();
        orderOfSelect();
        CHECK.end();
    }

    private static void create() {
        CHECK.fresh("create a(x int)", "create b(x int)");
        CHECK.act("create a(y int)", TAKEN);
        CHECK.act("create c(x int,x text)", TAKEN);
        CHECK.act("create c(x int,y int,z int,x int)", TAKEN);
        CHECK.act("create c(x int,y int,z int,z int)", TAKEN);
        CHECK.act("create c(c int,a int)", 0);
        CHECK.act("create d(x int,y int,z int,xx int)", 0);
        CHECK.size(3, 0);
        CHECK.size(4, QueryForge.BAD);
        CHECK.act("create e(x int)", FULL);
        CHECK.act("create e(x int,x int)", FULL);
        CHECK.act("create d(x int)", TAKEN);
        CHECK.act("create d(x int,x int)", TAKEN);
        CHECK.wrongWord("create d(x int,x int", 8);
        CHECK.act("select z from d", 0);
        CHECK.act("select e.x from e", NAME);
    }

    private static void insert() {
        CHECK.fresh("create t(a int,b text)");
        CHECK.act("insert u(1,'a')", NAME);
        CHECK.act("insert u(1)", NAME);
        CHECK.act("insert t(1)", COUNT);
        CHECK.act("insert t('a')", COUNT);
        CHECK.act("insert t('a',1,1)", COUNT);
        CHECK.act("insert t('a','a')", TYPE);
        CHECK.act("insert t(1,1)", TYPE);
        CHECK.act("insert t(1,-1)", TYPE);
        CHECK.act("insert t(null,1)", TYPE);
        CHECK.act("insert t(null,null)", 1);
        CHECK.act("insert t(-1,'b')", 1);
        CHECK.table(0, "null,null|-1,'b'");
        CHECK.fresh("create t(a int)");
        for (int n = 0; n < 24; n++) {
            CHECK.act("insert t(" + n + ")", 1);
        }
        CHECK.act("insert t(5)", FULL);
        CHECK.act("insert t('a')", TYPE);
        CHECK.act("insert t(5,5)", COUNT);
        CHECK.act("insert u(5)", NAME);
        CHECK.size(0, 24);
        CHECK.act("delete t where a=7", 1);
        CHECK.act("insert t(99)", 1);
        CHECK.act("insert t(99)", FULL);
        CHECK.cell(0, 6, 0, 6);
        CHECK.cell(0, 7, 0, 8);
        CHECK.cell(0, 23, 0, 99);
    }

    private static void tables() {
        CHECK.fresh("create t(a int)");
        CHECK.act("delete u", NAME);
        CHECK.act("delete u where a=1", NAME);
        CHECK.act("update u set a=1", NAME);
        CHECK.act("select a from u", NAME);
        CHECK.act("select a from t,u", NAME);
        CHECK.act("select a from u,t", NAME);
        CHECK.act("select -'a' from u", NAME);
        CHECK.act("select -'a' from t,u", NAME);
        CHECK.act("update u set a='a'", NAME);
        CHECK.act("delete u where 'a'=1", NAME);
        CHECK.act("select a from tt", NAME);
        CHECK.act("select a from a", NAME);
    }

    private static void places() {
        CHECK.fresh("create t(a int,b int)", "create u(b int,c int)");
        CHECK.act("select a,t.b,u.b,c from t,u", 0);
        CHECK.act("select t.a,u.c from u,t", 0);
        CHECK.act("select b from t,u", NAME);
        CHECK.act("select b from t", 0);
        CHECK.act("select c from t", NAME);
        CHECK.act("select u.b from t", NAME);
        CHECK.act("select u.a from t,u", NAME);
        CHECK.act("select x.a from t,u", NAME);
        CHECK.act("select a.t from t", NAME);
        CHECK.act("select t from t", NAME);
        CHECK.act("select 1 from t where c=1", NAME);
        CHECK.act("select 1 from t,u where b=1", NAME);
        CHECK.fresh("create t(a int,b int)", "create u(b int,c int)", "insert t(1,2)");
        CHECK.act("select a from t,t", NAME);
        CHECK.act("select t.a from t,t", NAME);
        CHECK.act("select 1 from t,t", 1);
        CHECK.act("select 1 from t,t where t.a=1", NAME);
        CHECK.act("delete t where t.a=9", 0);
        CHECK.act("delete t where u.b=9", NAME);
        CHECK.act("delete t where c=9", NAME);
        CHECK.act("update t set a=t.b where t.b=t.a", 0);
        CHECK.act("update t set c=1", NAME);
        CHECK.act("update t set a=c", NAME);
        CHECK.act("update t set a=u.b", NAME);
        CHECK.act("select count(c) from t", NAME);
    }

    private static void types() {
        CHECK.fresh("create t(a int,b text)", "insert t(1,'x')");
        String[] wrong = {"b+1", "1+b", "a-b", "b*a", "a/b", "-b", "-'a'", "-(b)", "b+b",
            "1+-b", "sum(b)", "sum('a')", "b+null", "null*'a'", "-(1)+(2*b)"};
        for (String item : wrong) {
            CHECK.act("select " + item + " from t", TYPE);
        }
        CHECK.fresh("create t(a int,b text)", "insert t(1,'x')");
        String[] right = {"b", "'a'", "(b)", "null", "a", "min(b)", "max('a')", "count(b)", "sum(a)",
            "sum(null)", "-null", "null/null"};
        for (String item : right) {
            CHECK.act("select " + item + " from t", 1);
        }
        CHECK.fresh("create t(a int,b text)", "insert t(1,'x')");
        for (String sign : new String[] {"=", "<>", "<", ">", "<=", ">="}) {
            CHECK.act("delete t where a" + sign + "b", TYPE);
            CHECK.act("delete t where 'a'" + sign + "1", TYPE);
            CHECK.act("delete t where b" + sign + "a", TYPE);
        }
        CHECK.fresh("create t(a int,b text)", "insert t(1,'x')");
        CHECK.act("delete t where b<'a'and a>2and(b)<'b'", 0);
        CHECK.act("delete t where b is null or a is null", 0);
        CHECK.act("delete t where -b is null", TYPE);
        CHECK.act("delete t where not b=1", TYPE);
        CHECK.act("delete t where [a=1]or[b=1]", TYPE);
        CHECK.size(0, 1);
    }

    private static void nullHasNoType() {
        CHECK.fresh("create t(a int,b text)", "insert t(1,'x')");
        CHECK.act("delete t where a=null or b=null or null=null or null<>'a'", 0);
        CHECK.act("delete t where null<a and null<b", 0);
        // What a sign gives is a number, even if it is of nulls.
        CHECK.act("delete t where null+1=b", TYPE);
        CHECK.act("delete t where b<>-null", TYPE);
        CHECK.act("delete t where null*null='a'", TYPE);
        CHECK.act("delete t where(null)='a'or(null)=1", 0);
        CHECK.act("update t set b=null+1", TYPE);
        CHECK.act("update t set b=-null", TYPE);
        CHECK.act("update t set b=null", 1);
        CHECK.act("update t set a=null", 1);
        CHECK.result("");
    }

    private static void orderOfTheText() {
        CHECK.fresh("create t(a int,b text)", "insert t(1,'x')");
        CHECK.act("select b+x from t", NAME);
        CHECK.act("select b+1+x from t", TYPE);
        CHECK.act("select x+(b+1) from t", NAME);
        CHECK.act("select b+(1+x) from t", NAME);
        CHECK.act("select b+1*x from t", NAME);
        CHECK.act("select -b+x from t", TYPE);
        CHECK.act("select -(b*x) from t", NAME);
        CHECK.act("select sum(b),x from t", TYPE);
        CHECK.act("select x,sum(b) from t", NAME);
        CHECK.act("select sum(b*x) from t", NAME);
        CHECK.act("select a from t where b=1 and x=1", TYPE);
        CHECK.act("select a from t where b=x and x=1", NAME);
        CHECK.act("select a from t where x=1 and b=1", NAME);
        CHECK.fresh("create t(a int,b text)", "insert t(1,'x')");
        CHECK.act("select a from t where b=1+x", NAME);
        CHECK.act("select a from t where -b=x", TYPE);
        CHECK.act("select a from t where not b=1 or x is null", TYPE);
        CHECK.act("select -b from t where x=1", TYPE);
        CHECK.act("select x from t where b=1", NAME);
        CHECK.act("select a,b,-b,x from t", TYPE);
        CHECK.act("select a,b,x,-b from t", NAME);
        CHECK.wrongWord("select x,-b from t where a", 9);
        // Faults of a statement are looked for before any row is gone through.
        CHECK.act("select a/0 from t where b=1", TYPE);
        CHECK.act("select a/0 from t", ZERO);
    }

    private static void update() {
        CHECK.fresh("create t(a int,b text)", "insert t(1,'x')");
        CHECK.act("update t set x=-b", NAME);
        CHECK.act("update t set a=-b", TYPE);
        CHECK.act("update t set x=y", NAME);
        CHECK.act("update t set a=b", TYPE);
        CHECK.act("update t set b=1", TYPE);
        CHECK.act("update t set b=a where x=1", TYPE);
        CHECK.act("update t set b=x+1", NAME);
        CHECK.act("update t set a=b where x=1", TYPE);
        CHECK.act("update t set a=x where b=1", NAME);
        CHECK.act("update t set a=1 where b=1", TYPE);
        CHECK.act("update t set a=1 where x=1", NAME);
        CHECK.act("update t set a='a'", TYPE);
        CHECK.act("update t set b='a'", 1);
        CHECK.table(0, "1,'a'");
    }

    private static void groups() {
        CHECK.fresh("create t(a int,b text)", "create u(a int,c int)", "insert t(1,'x')");
        CHECK.act("select a from t group a", 1);
        CHECK.act("select t.a from t group a", 1);
        CHECK.act("select a from t group t.a", 1);
        CHECK.act("select (a) from t group a", 1);
        CHECK.act("select a,sum(a),count(b) from t group a", 1);
        CHECK.act("select a from t group b", TYPE);
        CHECK.act("select sum(a) from t group a", TYPE);
        CHECK.act("select sum(a),a from t group a", TYPE);
        CHECK.act("select a,b from t group a", TYPE);
        CHECK.act("select a,a from t group a", TYPE);
        CHECK.act("select a,sum(a),a from t group a", TYPE);
        CHECK.act("select a+0 from t group a", TYPE);
        CHECK.act("select -a from t group a", TYPE);
        CHECK.act("select 1 from t group a", TYPE);
        CHECK.fresh("create t(a int,b text)", "create u(a int,c int)", "insert t(1,'x')");
        CHECK.act("select null,sum(a) from t group a", TYPE);
        CHECK.act("select t.a from t,u group u.a", TYPE);
        CHECK.act("select u.a from t,u group t.a", TYPE);
        CHECK.act("select u.a from t,u group u.a", 0);
        CHECK.act("select u.a from t,u group a", NAME);
        CHECK.act("select c,max(b) from t,u group u.c", 0);
        CHECK.act("select b from t,u group c", TYPE);
        CHECK.act("select a from t group x", NAME);
        CHECK.act("select a from t group u.a", NAME);
        CHECK.act("select a,sum(a) from t", TYPE);
        CHECK.act("select sum(a),1 from t", TYPE);
        CHECK.act("select sum(a),count(a),min(b),max(b) from t", 1);
        CHECK.act("select sum(a),count(a),min(b),b from t", TYPE);
        CHECK.act("select 1,sum(a),count(a),min(b) from t", TYPE);
    }

    private static void orders() {
        CHECK.fresh("create t(a int,b text)", "insert t(1,'x')");
        CHECK.act("select a from t order 0", TYPE);
        CHECK.act("select a from t order 1", 1);
        CHECK.act("select a from t order 2", TYPE);
        CHECK.act("select a,b from t order 2 desc", 1);
        CHECK.act("select a,b from t order 3 desc", TYPE);
        CHECK.act("select a,b,a,b from t order 4", 1);
        CHECK.act("select a,b,a,b from t order 5", TYPE);
        CHECK.act("select a from t order 2147483647", TYPE);
        CHECK.act("select sum(a) from t order 1", 1);
        CHECK.act("select a,sum(a) from t group a order 3", TYPE);
    }

    private static void orderOfSelect() {
        CHECK.fresh("create t(a int,b text)", "insert t(1,'x')");
        // The condition before group, group before order, all of them before what group asks.
        CHECK.act("select a from t where b=1 group x", TYPE);
        CHECK.act("select a from t where x=1 group b", NAME);
        CHECK.act("select a from t group x order 9", NAME);
        CHECK.act("select b,a from t group x", NAME);
        CHECK.act("select a,sum(a) from t where x=1", NAME);
        CHECK.act("select a,sum(a),x from t", NAME);
        CHECK.act("select b from t group a order 9", TYPE);
        CHECK.act("select a/0 from t group a", TYPE);
        CHECK.act("select a/0,sum(a) from t", TYPE);
        CHECK.act("select a/0 from t order 2", TYPE);
    }
}
