/** Promises 8 and 9: size, cell. */
public final class TableTest {
    private static final int BAD = QueryForge.BAD;
    private static final Check CHECK = new Check("TableTest");

    public static void main(String[] args) {
        sizes();
        cells();
        outside();
        CHECK.end();
    }

    private static void sizes() {
        CHECK.fresh("create z(a int)");
        CHECK.size(0, 0);
        CHECK.size(1, BAD);
        CHECK.act("create a(a int,b int)", 0);
        CHECK.act("insert a(1,1)", 1);
        CHECK.size(0, 0);
        CHECK.size(1, 1);
        CHECK.act("insert z(1)", 1);
        CHECK.act("insert z(1)", 1);
        CHECK.act("create y(a int)", 0);
        CHECK.act("create b(a int)", 0);
        int[] sizes = {2, 1, 0, 0, BAD, BAD};
        for (int table = 0; table < sizes.length; table++) {
            CHECK.size(table, sizes[table]);
        }
        CHECK.size(-1, BAD);
        CHECK.size(Integer.MIN_VALUE, BAD);
        CHECK.size(Integer.MAX_VALUE, BAD);
        CHECK.act("delete z where a=1", 2);
        CHECK.size(0, 0);
        CHECK.size(1, 1);
    }

    private static void cells() {
        CHECK.fresh("create t(a int,b text)", "create u(c text)", "insert t(-1,'a')",
            "insert t(null,'zz')", "insert u('dcba')", "insert t(9,null)");
        CHECK.cell(0, 0, 0, -1);
        CHECK.cell(0, 0, 1, 0x61000000);
        CHECK.cell(0, 1, 0, 0);
        CHECK.cell(0, 1, 1, 0x7a7a0000);
        CHECK.cell(0, 2, 0, 9);
        CHECK.cell(0, 2, 1, 0);
        CHECK.cell(1, 0, 0, 0x64636261);
        CHECK.act("update t set a=a*2 where b='a'", 1);
        CHECK.act("update t set b='q'where a=9", 1);
        CHECK.table(0, "-2,'a'|null,'zz'|9,'q'");
        CHECK.act("delete t where b='a'", 1);
        CHECK.table(0, "null,'zz'|9,'q'");
        CHECK.select("select a,b from t order 2", "9,'q'|null,'zz'");
        CHECK.table(0, "null,'zz'|9,'q'");
        CHECK.table(1, "'dcba'");
    }

    private static void outside() {
        CHECK.fresh("create t(a int,b int)", "insert t(1,2)", "insert t(3,4)", "delete t where a=3");
        int[] tables = {-1, 1, 4, 0, 0, 0, 0, 0, 0, Integer.MIN_VALUE, Integer.MAX_VALUE, 0, 0, 0, 0, 0};
        int[] rows = {0, 0, 0, -1, 1, 24, 0, 0, 1, 0, 0, Integer.MIN_VALUE, Integer.MAX_VALUE, 0, 0, 1073741824};
        int[] columns = {0, 0, 0, 0, 0, 0, -1, 2, -4, 0, 0, 0, 0, Integer.MIN_VALUE, Integer.MAX_VALUE, 0};
        for (int i = 0; i < tables.length; i++) {
            CHECK.cell(tables[i], rows[i], columns[i], BAD);
        }
        CHECK.cell(0, 0, 0, 1);
        CHECK.cell(0, 0, 1, 2);
    }
}
