/** Promises 10 and 11: bounded, sound. */
public final class MachineTest {
    private static final Check CHECK = new Check("MachineTest");

    public static void main(String[] args) {
        everyKindOfStatement();
        everyWord();
        greatestTables();
        oneEmptyTable();
        CHECK.end();
    }

    private static void everyKindOfStatement() {
        CHECK.fresh();
        String[] statements = {"", "create t(a int,b text)", "create t(a int)", "insert t(1,'a')",
            "insert t(1)", "insert t(null,null)", "update t set a=a+1", "update t set a=b",
            "select a,b from t where a>0 order 1 desc", "select a/0 from t", "select b,sum(a) from t group b",
            "select count(a) from t", "select 1 from t,t", "delete t where a is null", "delete x", "delete t"};
        for (String statement : statements) {
            CHECK.actAny(statement);
            CHECK.bounded();
            CHECK.sound();
        }
    }

    private static void everyWord() {
        CHECK.fresh("create t(a int,b text)", "create u(c int)", "insert t(1,'a')", "insert u(2)");
        String[] selects = {"select -a+1-2*3/4,b,null,'q' from t", "select 1 from t,u where a=1 and c<>1",
            "select min(a),max(c),sum(a),count(b) from t,u where[a<2 or a>2]",
            "select c from t,u where not a<=0 and a>=1 and b is null group c order 1",
            "select b from t where b='a'order 1 desc"};
        for (String select : selects) {
            CHECK.actAny(select);
            CHECK.bounded();
            CHECK.sound();
        }
    }

    private static void greatestTables() {
        CHECK.fresh("create t(a int)");
        for (int n = 0; n < 24; n++) {
            CHECK.act("insert t(1)", 1);
        }
        CHECK.act("select 1 from t,t", 576);
        CHECK.bounded();
        CHECK.act("select 1 from t,t order 1", 576);
        CHECK.bounded();
        CHECK.act("select sum(1-2),max(2) from t,t where 1=1", 1);
        CHECK.result("-576,2");
        CHECK.bounded();
        CHECK.act("select a from t group a", 1);
        CHECK.bounded();
        CHECK.act("update t set a=a*2", 24);
        CHECK.bounded();
        CHECK.act("delete t", 24);
        CHECK.bounded();
        CHECK.sound();
    }

    private static void oneEmptyTable() {
        CHECK.fresh("create t(a int)", "create u(b int)", "insert t(1)", "insert t(2)");
        CHECK.act("select a from t,u", 0);
        CHECK.bounded();
        CHECK.act("select a from u,t", 0);
        CHECK.bounded();
        CHECK.act("select 1 from u,u", 0);
        CHECK.bounded();
        CHECK.act("delete u", 0);
        CHECK.bounded();
        CHECK.sound();
    }
}
