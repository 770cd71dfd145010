/** Promises 4 to 7: rows, items, value, isNull. */
public final class ResultTest {
    private static final int BAD = QueryForge.BAD;
    private static final Check CHECK = new Check("ResultTest");

    public static void main(String[] args) {
        noResult();
        rowsAndItems();
        values();
        outside();
        staysUntilTheNextSelect();
        isNotTheTable();
        fullResult();
        CHECK.end();
    }

    private static void noResult() {
        CHECK.fresh("create t(a int)", "insert t(1)", "update t set a=2", "delete t");
        CHECK.rows(0);
        CHECK.items(0);
        CHECK.value(0, 0, BAD);
        CHECK.isNull(0, 0, false);
        CHECK.act("select a from u", -1001);
        CHECK.rows(0);
        CHECK.items(0);
    }

    private static void rowsAndItems() {
        CHECK.fresh("create t(a int)", "insert t(1)", "insert t(2)", "insert t(3)");
        CHECK.act("select a,a,a,a from t", 3);
        CHECK.rows(3);
        CHECK.items(4);
        CHECK.act("select a,1 from t where a>1", 2);
        CHECK.rows(2);
        CHECK.items(2);
        CHECK.act("select sum(a),count(a),max(a) from t", 1);
        CHECK.rows(1);
        CHECK.items(3);
        CHECK.act("select a from t where a=4", 0);
        CHECK.rows(0);
        CHECK.items(1);
        CHECK.value(0, 0, BAD);
    }

    private static void values() {
        CHECK.fresh("create t(a int,b text)", "insert t(-1,'a')", "insert t(null,null)",
            "insert t(0,'ab')", "insert t(-2147483647,'abc')", "insert t(2147483647,'zzzz')");
        CHECK.act("select a,b from t", 5);
        int[] numbers = {-1, 0, 0, -2147483647, 2147483647};
        int[] texts = {0x61000000, 0, 0x61620000, 0x61626300, 0x7a7a7a7a};
        for (int row = 0; row < 5; row++) {
            CHECK.value(row, 0, numbers[row]);
            CHECK.value(row, 1, texts[row]);
            CHECK.isNull(row, 0, row == 1);
            CHECK.isNull(row, 1, row == 1);
        }
        CHECK.select("select b,a,'q',null from t where a=0", "'ab',0,'q',null");
    }

    private static void outside() {
        CHECK.fresh("create t(a int,b int)", "insert t(null,5)", "insert t(6,null)");
        CHECK.act("select a,b from t", 2);
        int[] rows = {-1, 2, 0, 0, 0, 1, 3, Integer.MIN_VALUE, Integer.MAX_VALUE, 1, 1, 0, 1073741824};
        int[] items = {0, 0, -1, 2, 3, 4, -4, 0, 0, Integer.MIN_VALUE, Integer.MAX_VALUE, 4, 0};
        for (int i = 0; i < rows.length; i++) {
            CHECK.value(rows[i], items[i], BAD);
            CHECK.isNull(rows[i], items[i], false);
        }
        CHECK.result("null,5|6,null");
        // What an earlier, greater result left behind is not seen.
        CHECK.act("select b from t where b=5", 1);
        CHECK.value(0, 0, 5);
        CHECK.value(1, 0, BAD);
        CHECK.value(0, 1, BAD);
        CHECK.isNull(1, 0, false);
        CHECK.isNull(0, 1, false);
    }

    private static void staysUntilTheNextSelect() {
        CHECK.fresh("create t(a int)", "insert t(4)", "insert t(0)");
        CHECK.select("select a,8 from t", "4,8|0,8");
        String[] others = {"select 1/a from t", "select a from t where", "select b from t",
            "insert t(1)", "update t set a=a+1", "delete t where a=1", "create u(a int)",
            "select sum(2147483647) from t", "delete t", "delete v", ""};
        int[] answers = {-1004, -6, -1001, 1, 3, 1, 0, -1005, 2, -1001, -1};
        for (int i = 0; i < others.length; i++) {
            CHECK.act(others[i], answers[i]);
            CHECK.result("4,8|0,8");
        }
        CHECK.act("select a from t", 0);
        CHECK.rows(0);
        CHECK.items(1);
    }

    private static void isNotTheTable() {
        CHECK.fresh("create t(a int)", "insert t(4)");
        CHECK.select("select a from t", "4");
        CHECK.act("update t set a=5", 1);
        CHECK.value(0, 0, 4);
        CHECK.select("select a from t", "5");
        CHECK.act("update t set a=null", 1);
        CHECK.isNull(0, 0, false);
        CHECK.value(0, 0, 5);
    }

    private static void fullResult() {
        CHECK.fresh("create t(a int)");
        for (int n = 0; n < 24; n++) {
            CHECK.act("insert t(" + n + ")", 1);
        }
        CHECK.act("select 1,2,3,4 from t,t order 4", 576);
        CHECK.rows(576);
        CHECK.items(4);
        CHECK.value(575, 3, 4);
        CHECK.value(576, 0, BAD);
        CHECK.isNull(576, 0, false);
        CHECK.act("select a,-a from t order 2", 24);
        CHECK.rows(24);
        CHECK.value(0, 0, 23);
        CHECK.value(23, 0, 0);
        CHECK.value(24, 0, BAD);
        CHECK.bounded();
        CHECK.sound();
    }
}
