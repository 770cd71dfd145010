/** What it is, and promises 1 to 9; each method is of one sentence of the document. */
public final class PromiseEdgesTest {
    private static final int BAD = QueryForge.BAD;
    private static final int LEAST = Integer.MIN_VALUE;
    private static final int GREATEST = Integer.MAX_VALUE;
    private static final Check CHECK = new Check("PromiseEdgesTest");

    public static void main(String[] args) {
        everyFault();
        lastCalls();
        callsBehindTheLast();
        noTables();
        signsOfUnit();
        mostSigns();
        refusedSigns();
        collectedIsGone();
        answersOfAct();
        untilTheNextSelect();
        rowsAtFirst();
        itemsOfResults();
        valuesOfResults();
        textsAsNumbers();
        noSuchValue();
        badAsValue();
        nullsAsZero();
        nulls();
        sizes();
        cells();
        noSuchCell();
        CHECK.end();
    }

    private static void everyFault() {
        CHECK.says("every fault leaves all as it was.");
        CHECK.fresh("create t(a int,b text)", "create u(c int)", "insert t(0,'x')", "insert t(null,null)",
            "select b,a from t order 2");
        CHECK.refused("select", -2);
        CHECK.refused("delete z", -1001);
        CHECK.refused("select x from t", -1001);
        CHECK.refused("select -b from t", -1002);
        CHECK.refused("select a from t order 2", -1002);
        CHECK.refused("create t(a int)", -1003);
        CHECK.refused("create v(a int,b int,a int)", -1003);
        CHECK.refused("select 1,1/a from t", -1004);
        CHECK.refused("select a,sum(1/a) from t group a", -1004);
        CHECK.refused("update t set a=1/a", -1004);
        CHECK.refused("delete t where 1/a is null", -1004);
        CHECK.refused("update t set a=a+2147483647+1", -1005);
        CHECK.refused("select count(1),sum(2147483647) from t", -1005);
        CHECK.refused("insert t(1)", -1007);
        CHECK.refused("insert t(1,2)", -1002);
        CHECK.refused("select " + "a+(".repeat(10) + "a" + ")".repeat(10) + " from t", -1008);
        CHECK.fresh("create t(a int,b text)", "create u(c int)", "create v(c int)", "create w(c int)",
            "insert t(0,'x')", "select b,a from t");
        CHECK.refused("create z(a int,b text)", -1006);
        // A fault in the second row, behind a first one that was well.
        CHECK.fresh("create t(a int,b text)", "insert t(1,'x')", "insert t(0,'y')", "select b,a from t");
        CHECK.refused("select 1/a,2 from t", -1004);
        CHECK.refused("select b,sum(1/a) from t group b", -1004);
        CHECK.refused("update t set a=1/a", -1004);
        CHECK.refused("delete t where 1/a=1", -1004);
        CHECK.refused("update t set b='z'where 1/a=1", -1004);
        // A fault in the midst of values, and then a statement that wants as many as there may be.
        CHECK.act("delete t where 1=1 or 1=2-(3-(4-(5-(6-(1/a)))))", -1004);
        CHECK.act("select 1+(2+(3+(4+(5+(6+(7+(8+(9+10)))))))) from t where a=1", 1);
        CHECK.value(0, 0, 55);
    }

    private static void lastCalls() {
        CHECK.says("An object is used for at most 512 calls after it has been made;");
        String create = "create t(a int)";
        QueryForge forge = new QueryForge();
        int calls = 0;
        while (calls < 512 - create.length() - 3) {
            CHECK.due("size(0) before any create", forge.size(0), BAD);
            calls++;
        }
        for (char sign : create.toCharArray()) {
            CHECK.due("unit(" + (int) sign + ")", forge.unit(sign), true);
            calls++;
        }
        CHECK.due("act() as call 511 less one", forge.act(), 0);
        CHECK.due("size(0) as call 511", forge.size(0), 0);
        CHECK.due("act() of nothing as call 512", forge.act(), -1);
        CHECK.due("calls", calls + 3, 512);
    }

    private static void callsBehindTheLast() {
        CHECK.says("what later calls answer is free.");
        QueryForge forge = new QueryForge();
        for (int n = 0; n < 60; n++) {
            for (char sign : "create t(a int)".toCharArray()) {
                forge.unit(sign);
            }
            forge.act();
            for (char sign : "insert t(1)".toCharArray()) {
                forge.unit(sign);
            }
            forge.act();
            forge.cell(n, n, n);
            forge.value(n, n);
        }
        CHECK.due("still there behind the last call", forge.size(-1), BAD);
    }

    private static void noTables() {
        CHECK.says("No tables.");
        CHECK.fresh();
        for (int table : new int[] {LEAST, -1, 0, 1, 3, 4, GREATEST}) {
            CHECK.size(table, BAD);
            CHECK.cell(table, 0, 0, BAD);
        }
        CHECK.refused("delete t", -1001);
        for (String name : new String[] {"t", "u", "v", "w"}) {
            CHECK.act("create " + name + "(a int)", 0);
        }
        CHECK.act("create x(a int)", -1006);
        CHECK.fresh();
        CHECK.size(0, BAD);
    }

    private static void signsOfUnit() {
        CHECK.says("A sign of 32 .. 126 is collected,");
        CHECK.fresh();
        for (int sign = 32; sign <= 126; sign++) {
            CHECK.unit(sign, true);
        }
        CHECK.actAlone(-1);
        CHECK.says("False: another one,");
        // Those in the second line are 'a' if they are cut to 8 or 16 bits.
        int[] others = {LEAST, -32, -1, 0, 9, 10, 13, 31, 127, 128, 160, 255, 256, GREATEST,
            97 + 256, 97 + 65536, 97 - 256, 97 - 65536};
        for (int sign : others) {
            CHECK.unit(sign, false);
        }
    }

    private static void mostSigns() {
        CHECK.says("at most 200.");
        CHECK.fresh();
        String text = "create t(a int)";
        fill(200 - text.length());
        for (char sign : text.toCharArray()) {
            CHECK.unit(sign, true);
        }
        CHECK.says("False: another one, no room.");
        CHECK.unit(' ', false);
        CHECK.unit('z', false);
        CHECK.unit(')', false);
        CHECK.unit(0, false);
        CHECK.actAlone(0);
        CHECK.size(0, 0);
        // There is room for as many again, and no more.
        fill(199);
        CHECK.unit('!', true);
        CHECK.unit('!', false);
        CHECK.actAlone(-1);
        CHECK.act("insert t(5)", 1);
    }

    private static void fill(int blanks) {
        for (int n = 0; n < blanks; n++) {
            CHECK.unit(' ', true);
        }
    }

    private static void refusedSigns() {
        CHECK.says("False: another one, no room.");
        CHECK.fresh();
        for (char sign : "create t(a int)".toCharArray()) {
            CHECK.unit(31, false);
            CHECK.unit(127, false);
            CHECK.unit(sign, true);
        }
        CHECK.actAlone(0);
        CHECK.unit(10, false);
        CHECK.actAlone(-1);
        // Refused ones take no room.
        CHECK.fresh();
        for (int n = 0; n < 210; n++) {
            CHECK.unit(127, false);
        }
        CHECK.act("create t(a int)", 0);
    }

    private static void collectedIsGone() {
        CHECK.says("What was collected is done as a statement, and is gone:");
        CHECK.fresh();
        CHECK.actAlone(-1);
        CHECK.act("create t", -3);
        CHECK.act("(a int)", -1);
        CHECK.act("create t(a int)", 0);
        CHECK.actAlone(-1);
        CHECK.act("insert t(5)", 1);
        CHECK.actAlone(-1);
        CHECK.act("insert t('x')", -1002);
        CHECK.act("delete t where 1/0=1", -1004);
        CHECK.actAlone(-1);
        CHECK.table(0, "5");
        // Calls between signs leave them.
        for (char sign : "delete t".toCharArray()) {
            CHECK.unit(sign, true);
            CHECK.size(0, 1);
            CHECK.rows(0);
            CHECK.bounded();
        }
        CHECK.actAlone(1);
    }

    private static void answersOfAct() {
        CHECK.says("create 0; insert 1; delete and update how many rows; select how many rows:");
        CHECK.fresh();
        CHECK.act("create t(a int)", 0);
        CHECK.act("create u(a int,b int,c int,d int)", 0);
        CHECK.act("select a from t", 0);
        CHECK.act("update t set a=1", 0);
        CHECK.act("delete t", 0);
        CHECK.act("insert u(1,2,3,4)", 1);
        for (int n = 0; n < 24; n++) {
            CHECK.act("insert t(" + n % 2 + ")", 1);
        }
        CHECK.act("select a from t", 24);
        CHECK.act("update t set a=a where a=1", 12);
        CHECK.act("update t set a=a", 24);
        CHECK.act("delete t where a=1", 12);
        CHECK.act("delete t", 12);
    }

    private static void untilTheNextSelect() {
        CHECK.says("they are the RESULT then, until the next select that is well. Or a fault.");
        CHECK.fresh("create t(a int)", "insert t(4)", "insert t(0)");
        CHECK.select("select a,8 from t", "4,8|0,8");
        String[] others = {"insert t(1)", "update t set a=a+1", "delete t where a=2", "create u(a int)",
            "select 8/(a-1) from t", "select a from t order 2", "select a", "select sum(2147483647) from t",
            "select a from v", "delete t", ""};
        int[] answers = {1, 3, 1, 0, -1004, -1002, -3, -1005, -1001, 2, -1};
        for (int i = 0; i < others.length; i++) {
            CHECK.act(others[i], answers[i]);
            CHECK.result("4,8|0,8");
        }
        CHECK.act("select a from t", 0);
        CHECK.rows(0);
        CHECK.items(1);
        CHECK.value(0, 0, BAD);
        CHECK.select("select count(a) from t", "0");
    }

    private static void rowsAtFirst() {
        CHECK.says("How many rows the result has (0 at first).");
        CHECK.fresh();
        CHECK.rows(0);
        CHECK.act("select 1 from t", -1001);
        CHECK.act("create t(a int)", 0);
        CHECK.act("insert t(5)", 1);
        CHECK.rows(0);
        CHECK.act("select a from t", 1);
        CHECK.rows(1);
        CHECK.act("select a from t where a=6", 0);
        CHECK.rows(0);
        for (int n = 1; n < 24; n++) {
            CHECK.act("insert t(5)", 1);
        }
        CHECK.act("select 1 from t,t", 576);
        CHECK.rows(576);
        CHECK.act("select a from t group a", 1);
        CHECK.rows(1);
    }

    private static void itemsOfResults() {
        CHECK.says("How many items.");
        CHECK.fresh("create t(a int)");
        CHECK.items(0);
        String items = "a";
        for (int count = 1; count <= 4; count++) {
            CHECK.act("select " + items + " from t", 0);
            CHECK.items(count);
            CHECK.act("select " + items + ",a,a,a,a from t", -1 - 8);
            CHECK.act("select " + items + " from t order 5", -1002);
            CHECK.items(count);
            items += ",a";
        }
        CHECK.act("select count(a),sum(a),max(a) from t", 1);
        CHECK.items(3);
    }

    private static void valuesOfResults() {
        CHECK.says("A value of the result (rows and items from 0 on): a number;");
        CHECK.fresh("create t(a int)", "insert t(2147483647)", "insert t(-2147483647)", "insert t(0)");
        CHECK.act("select a,-a,a/2,a*0-1 from t", 3);
        CHECK.value(0, 0, GREATEST);
        CHECK.value(0, 1, -GREATEST);
        CHECK.value(1, 0, -GREATEST);
        CHECK.value(1, 2, -1073741823);
        CHECK.value(2, 0, 0);
        CHECK.value(2, 3, -1);
        CHECK.act("select a-1 from t where a<0", 1);
        CHECK.value(0, 0, LEAST);
        CHECK.isNull(0, 0, false);
        // The result is not the table: it stays as it was.
        CHECK.act("update t set a=5", 3);
        CHECK.value(0, 0, LEAST);
    }

    private static void textsAsNumbers() {
        CHECK.says("a text as one, its signs as bytes, the first one the highest, 0 behind them;");
        CHECK.fresh("create t(b text)", "insert t('a')", "insert t('az')", "insert t('zab')", "insert t('abcd')",
            "insert t('zzzz')");
        int[] numbers = {0x61000000, 0x617a0000, 0x7a616200, 0x61626364, 0x7a7a7a7a};
        CHECK.act("select b,'m' from t", 5);
        for (int row = 0; row < numbers.length; row++) {
            CHECK.value(row, 0, numbers[row]);
            CHECK.value(row, 1, 0x6d000000);
            CHECK.isNull(row, 0, false);
            CHECK.cell(0, row, 0, numbers[row]);
        }
        CHECK.act("select max(b),min(b) from t", 1);
        CHECK.value(0, 0, 0x7a7a7a7a);
        CHECK.value(0, 1, 0x61000000);
    }

    private static void noSuchValue() {
        CHECK.says("BAD: none such (which may also be a value).");
        CHECK.fresh("create t(a int,b int)", "insert t(6,7)", "insert t(8,9)");
        CHECK.act("select a,b from t", 2);
        outside(2, 2);
        CHECK.act("select a,b,a,b from t where a=6", 1);
        outside(1, 4);
        // What an earlier, greater result had is not there any more.
        CHECK.act("select b from t where a=6", 1);
        outside(1, 1);
        CHECK.value(0, 0, 7);
        CHECK.act("select a from t where a=0", 0);
        outside(0, 1);
    }

    private static void outside(int rows, int items) {
        int[] wrongRows = {LEAST, -1, rows, rows + 1, 575, 576, 1 << 30, 1 << 28, GREATEST};
        for (int row : wrongRows) {
            CHECK.value(row, 0, BAD);
            CHECK.isNull(row, 0, false);
        }
        int[] wrongItems = {LEAST, -4, -1, items, items + 1, 4, 8, 1 << 30, GREATEST};
        for (int item : wrongItems) {
            CHECK.value(0, item, BAD);
            CHECK.isNull(0, item, false);
        }
        CHECK.value(-1, items, BAD);
        CHECK.value(rows - 1, items, BAD);
        CHECK.value(rows, items - 1, BAD);
        CHECK.value(1, -4, BAD);
    }

    private static void badAsValue() {
        CHECK.says("(which may also be a value).");
        CHECK.fresh("create t(a int)", "insert t(-1)");
        CHECK.act("select a,0-1 from t", 1);
        CHECK.value(0, 0, -1);
        CHECK.value(0, 1, -1);
        CHECK.cell(0, 0, 0, -1);
        CHECK.due("BAD", BAD, -1);
    }

    private static void nullsAsZero() {
        CHECK.says("0 for null.");
        CHECK.fresh("create t(a int,b text)", "insert t(7,'q')", "select a,b,a,b from t", "update t set a=null",
            "update t set b=null");
        // Other values were at these places before.
        CHECK.act("select a,b,null,a+1 from t", 1);
        for (int item = 0; item < 4; item++) {
            CHECK.value(0, item, 0);
        }
        CHECK.cell(0, 0, 0, 0);
        CHECK.cell(0, 0, 1, 0);
        CHECK.act("select max(a),min(b) from t", 1);
        CHECK.value(0, 0, 0);
        CHECK.value(0, 1, 0);
    }

    private static void nulls() {
        CHECK.says("Whether it is null. False also: none such.");
        CHECK.fresh("create t(a int,b text)", "insert t(null,null)", "insert t(0,'a')");
        CHECK.act("select a,b,null,a+1 from t", 2);
        for (int item = 0; item < 4; item++) {
            CHECK.isNull(0, item, true);
            CHECK.isNull(1, item, item == 2);
        }
        CHECK.isNull(2, 0, false);
        CHECK.isNull(0, 4, false);
        CHECK.isNull(-1, 0, false);
        CHECK.isNull(0, -1, false);
        CHECK.isNull(LEAST, LEAST, false);
        CHECK.isNull(GREATEST, GREATEST, false);
        CHECK.act("select max(a) from t where a>0", 1);
        CHECK.isNull(0, 0, true);
        CHECK.act("select a from t where a>0", 0);
        CHECK.isNull(0, 0, false);
    }

    private static void sizes() {
        CHECK.says("How many rows a table has, in the order of making, from 0 on. BAD: none such.");
        CHECK.fresh();
        String[] names = {"z", "b", "y", "a"};
        for (int made = 0; made < 4; made++) {
            CHECK.size(made, BAD);
            CHECK.act("create " + names[made] + "(c int)", 0);
            CHECK.size(made, 0);
            for (int n = 0; n <= made; n++) {
                CHECK.act("insert " + names[made] + "(5)", 1);
            }
        }
        for (int table = 0; table < 4; table++) {
            CHECK.size(table, table + 1);
        }
        for (int table : new int[] {LEAST, -1, 4, 5, 1 << 30, GREATEST}) {
            CHECK.size(table, BAD);
        }
        CHECK.act("delete b", 2);
        CHECK.size(1, 0);
        CHECK.size(2, 3);
        CHECK.fresh("create t(a int)");
        for (int n = 0; n < 24; n++) {
            CHECK.size(0, n);
            CHECK.act("insert t(1)", 1);
        }
        CHECK.act("insert t(1)", -1006);
        CHECK.size(0, 24);
    }

    private static void cells() {
        CHECK.says("A value of a table (rows and columns from 0 on); as above.");
        CHECK.fresh("create t(a int,b text,c int,d text)", "insert t(2147483647,'zzzz',-2147483647,'a')",
            "insert t(null,null,null,null)", "create u(a text)", "insert u('ab')", "update t set c=c-1");
        CHECK.cell(0, 0, 0, GREATEST);
        CHECK.cell(0, 0, 1, 0x7a7a7a7a);
        CHECK.cell(0, 0, 2, LEAST);
        CHECK.cell(0, 0, 3, 0x61000000);
        for (int column = 0; column < 4; column++) {
            CHECK.cell(0, 1, column, 0);
        }
        CHECK.cell(1, 0, 0, 0x61620000);
        // Neither a result nor its order changes the table.
        CHECK.act("select a from t order 1", 2);
        CHECK.cell(0, 0, 0, GREATEST);
        CHECK.cell(0, 1, 0, 0);
        CHECK.act("update t set a=3 where a is null", 1);
        CHECK.cell(0, 1, 0, 3);
        CHECK.act("update t set a=null where a=3", 1);
        CHECK.cell(0, 1, 0, 0);
    }

    private static void noSuchCell() {
        CHECK.says("as above.");
        CHECK.fresh("create t(a int,b int)", "create u(a int)", "insert t(6,7)", "insert t(8,9)", "insert u(5)");
        for (int wrong : new int[] {LEAST, -1, 2, 3, 4, 24, 1 << 30, GREATEST}) {
            CHECK.cell(wrong, 0, 0, BAD);
            CHECK.cell(0, wrong, 0, BAD);
            CHECK.cell(0, 0, wrong, BAD);
            CHECK.cell(0, 1, wrong, BAD);
            CHECK.cell(1, 0, wrong, BAD);
            CHECK.cell(1, wrong, 0, BAD);
        }
        CHECK.cell(1, 1, 0, BAD);
        CHECK.cell(1, 0, 1, BAD);
        CHECK.cell(0, 1, -4, BAD);
        CHECK.cell(0, 0, 4, BAD);
        CHECK.act("delete t where a=8", 1);
        CHECK.cell(0, 0, 1, 7);
        CHECK.cell(0, 1, 0, BAD);
        CHECK.act("delete t", 1);
        CHECK.cell(0, 0, 0, BAD);
    }
}
