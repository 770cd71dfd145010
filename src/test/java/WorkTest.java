/** Promise 3: what statements do with rows and values. */
public final class WorkTest {
    private static final int ZERO = -1004;
    private static final int OVERFLOW = -1005;
    private static final Check CHECK = new Check("WorkTest");

    public static void main(String[] args) {
        calculation();
        division();
        overflow();
        nullInCalculation();
        logic();
        comparisons();
        allOfTheConditionIsWorkedOut();
        pairs();
        firstFault();
        delete();
        fourColumns();
        update();
        faultsChangeNothing();
        CHECK.end();
    }

    /** One row to ask about, so that items can be worked out. */
    private static void one() {
        CHECK.fresh("create t(a int,b text)", "insert t(7,'m')");
    }

    private static void calculation() {
        one();
        CHECK.select("select 1+2*3,(1+2)*3,10-3-2,10-(3-2) from t", "7,9,5,9");
        CHECK.select("select 2*3+4*5,100/10/5,100/(10/5),2*7/3 from t", "26,2,50,4");
        CHECK.select("select -a,--a,-(a+1),2- -a from t", "-7,7,-8,9");
        CHECK.select("select -a*2,a*-2,-2-3,-(-3) from t", "-14,-14,-5,3");
        CHECK.select("select b,'q',null,a from t", "'m','q',null,7");
        CHECK.select("select 0,-0,0*-1,0-a+a from t", "0,0,0,0");
    }

    private static void division() {
        one();
        CHECK.select("select 7/2,-7/2,7/-2,-7/-2 from t", "3,-3,-3,3");
        CHECK.select("select 1/2,-1/2,0/5,6/3 from t", "0,0,0,2");
        CHECK.act("select a/0 from t", ZERO);
        CHECK.act("select 0/0 from t", ZERO);
        CHECK.act("select 1/(a-7) from t", ZERO);
        CHECK.act("select a from t where a/0=1", ZERO);
        CHECK.select("select null/0,0/null,a/null from t", "null,null,null");
        CHECK.act("select a/0 from t where a=8", 0);
    }

    private static void overflow() {
        one();
        CHECK.select("select -2147483647-1,2147483647+0 from t", "-2147483648,2147483647");
        CHECK.act("select 2147483647+1 from t", OVERFLOW);
        CHECK.act("select -2147483647-2 from t", OVERFLOW);
        CHECK.act("select -(-2147483647-1) from t", OVERFLOW);
        CHECK.act("select (-2147483647-1)/-1 from t", OVERFLOW);
        CHECK.act("select 65536*32768 from t", OVERFLOW);
        one();
        CHECK.select("select 65536*-32768,46341*46340 from t", "-2147483648,2147441940");
        CHECK.act("select 46341*46341 from t", OVERFLOW);
        CHECK.act("select 65536*65536 from t", OVERFLOW);
        CHECK.act("select 2147483647*2147483647 from t", OVERFLOW);
        CHECK.act("select 2147483647+1-1 from t", OVERFLOW);
        CHECK.act("select -1*(-2147483647-1) from t", OVERFLOW);
        CHECK.select("select (-2147483647-1)/1 from t", "-2147483648");
        CHECK.act("select a from t where 2147483647+a>0", OVERFLOW);
    }

    private static void nullInCalculation() {
        one();
        CHECK.select("select null+1,1-null,null*0,-null from t", "null,null,null,null");
        CHECK.select("select a+null,(null),1+(2*null) from t", "null,null,null");
        CHECK.act("update t set a=null", 1);
        CHECK.select("select a,a+1,-a,a/0 from t", "null,null,null,null");
        CHECK.select("select 5 from t where a is null", "5");
        CHECK.select("select 5 from t where -a*2 is null", "5");
        CHECK.act("select 5 from t where b is null", 0);
        CHECK.act("select 5 from t where 1 is null", 0);
        CHECK.act("select 5 from t where 'a' is null", 0);
        CHECK.act("select 5 from t where null is null", 1);
    }

    private static void logic() {
        String[] kinds = {"1=2", "1=null", "1=1"};
        for (int left = 0; left < 3; left++) {
            truth("not " + kinds[left], 2 - left);
            for (int right = 0; right < 3; right++) {
                truth(kinds[left] + " and " + kinds[right], Math.min(left, right));
                truth(kinds[left] + " or " + kinds[right], Math.max(left, right));
            }
        }
        truth("1=1 or 1=1 and 1=2", 2);
        truth("[1=1 or 1=1]and 1=2", 0);
        truth("1=2 and 1=2 or 1=1", 2);
        truth("1=2 and[1=2 or 1=1]", 0);
        truth("not 1=2 and 1=2", 0);
        truth("not[1=2 and 1=2]", 2);
        truth("not not not 1=1", 0);
        truth("not 1=1 or 1=1", 2);
        truth("not[1=1 or 1=1]", 0);
        truth("not[1=null]and 1=1", 1);
    }

    /** 0 is false, 1 unknown, 2 true: unknown is what neither holds nor holds with not. */
    private static void truth(String condition, int want) {
        one();
        CHECK.act("select 1 from t where " + condition, want == 2 ? 1 : 0);
        CHECK.act("select 1 from t where not[" + condition + "]", want == 0 ? 1 : 0);
    }

    private static void comparisons() {
        String[] signs = {"=", "<>", "<", ">", "<=", ">="};
        String[] pairs = {"1 2", "2 2", "2 1", "-1 0", "'a' 'b'", "'b' 'b'", "'b' 'a'", "'a' 'ab'",
            "'az' 'b'", "'zzzz' 'zzz'", "'abcd' 'abcd'", "null 1", "'a' null", "null null"};
        int[] compared = {-1, 0, 1, -1, -1, 0, 1, -1, -1, 1, 0, 9, 9, 9};
        for (int i = 0; i < pairs.length; i++) {
            for (int sign = 0; sign < signs.length; sign++) {
                one();
                int order = compared[i];
                boolean holds = sign == 0 && order == 0 || sign == 1 && order != 0
                    || sign == 2 && order < 0 || sign == 3 && order > 0
                    || sign == 4 && order <= 0 || sign == 5 && order >= 0;
                String condition = pairs[i].replace(" ", signs[sign]);
                boolean isKnown = order != 9;
                CHECK.act("select 1 from t where " + condition, holds && isKnown ? 1 : 0);
                CHECK.act("select 1 from t where not " + condition, !holds && isKnown ? 1 : 0);
            }
        }
        one();
        CHECK.act("select 1 from t where -2147483647-1<2147483647", 1);
        CHECK.act("select 1 from t where -2147483647-1>2147483647", 0);
    }

    private static void allOfTheConditionIsWorkedOut() {
        one();
        CHECK.act("select 1 from t where 1=1 or 1/0=1", ZERO);
        CHECK.act("select 1 from t where 1=2 and 1/0=1", ZERO);
        CHECK.act("select 1 from t where 1=2 and 2147483647+1=1 and 1/0=1", OVERFLOW);
        CHECK.act("select 1 from t where 1/0=2147483647+1", ZERO);
        CHECK.act("select 1 from t where 1/0 is null", ZERO);
        CHECK.act("select 1 from t where null=1/0", ZERO);
        CHECK.act("select null+1/0 from t", ZERO);
        CHECK.act("select 1/0+(2147483647+1) from t", ZERO);
        CHECK.act("select 2147483647+1+1/0 from t", OVERFLOW);
    }

    private static void pairs() {
        CHECK.fresh("create t(a int)", "create u(b int)", "insert t(1)", "insert t(2)",
            "insert u(10)", "insert u(20)", "insert u(30)");
        CHECK.select("select a,b from t,u", "1,10|1,20|1,30|2,10|2,20|2,30");
        CHECK.select("select a,b from u,t", "1,10|2,10|1,20|2,20|1,30|2,30");
        CHECK.select("select a from t,u where a*10=b", "1|2");
        CHECK.select("select 3 from t,t", "3|3|3|3");
        CHECK.select("select b-a from t,u where b>10 and a>1", "18|28");
        CHECK.fresh("create t(a int)", "create u(b int)", "insert t(1)", "insert t(2)");
        CHECK.act("select a,b from t,u", 0);
        CHECK.act("select a,b from u,t", 0);
        CHECK.act("select a/0 from t,u", 0);
        CHECK.act("select 1 from u,u", 0);
        CHECK.select("select count(1) from t,u", "0");
        CHECK.act("insert u(5)", 1);
        CHECK.select("select b,a from u,t where a<9", "5,1|5,2");
        CHECK.select("select b,a from t,u where a<9", "5,1|5,2");
    }

    private static void firstFault() {
        CHECK.fresh("create t(a int)", "insert t(2147483647)", "insert t(0)");
        // Row by row, in a row the condition first, then the items from left to right.
        CHECK.act("select a+1,1/a from t", OVERFLOW);
        CHECK.act("select 1/a,a+1 from t", OVERFLOW);
        CHECK.act("select 1/a from t where a+1>a", OVERFLOW);
        CHECK.act("select a+1 from t where 1/a>a", ZERO);
        CHECK.act("select a+1 from t where 1/a=0", OVERFLOW);
        CHECK.act("update t set a=a+1 where 1/a=0", OVERFLOW);
        CHECK.act("update t set a=1/a where a>=0", ZERO);
        CHECK.act("delete t where 1/a=0 or a=3", ZERO);
        CHECK.act("select sum(a),sum(1/a) from t", ZERO);
        CHECK.table(0, "2147483647|0");
        CHECK.fresh("create t(a int)", "insert t(0)", "insert t(2147483647)", "insert t(1)");
        CHECK.act("select 1/a,a+1 from t", ZERO);
        CHECK.act("select a+1,1/a from t", ZERO);
        CHECK.act("select sum(a) from t", OVERFLOW);
        CHECK.act("select sum(a),sum(1/a) from t", ZERO);
        CHECK.act("select sum(a) from t where 1/a>0", ZERO);
    }

    private static void delete() {
        CHECK.fresh("create t(a int,b text)", "insert t(1,'a')", "insert t(2,'b')",
            "insert t(null,'c')", "insert t(4,null)");
        CHECK.act("delete t where a=9", 0);
        CHECK.act("delete t where a<>1", 2);
        CHECK.table(0, "1,'a'|null,'c'");
        CHECK.act("insert t(5,'e')", 1);
        CHECK.table(0, "1,'a'|null,'c'|5,'e'");
        CHECK.act("delete t where a is null", 1);
        CHECK.table(0, "1,'a'|5,'e'");
        CHECK.act("delete t", 2);
        CHECK.act("delete t", 0);
        CHECK.size(0, 0);
        CHECK.act("insert t(null,null)", 1);
        CHECK.select("select a,b from t", "null,null");
        CHECK.act("delete t where not a=1", 0);
        CHECK.size(0, 1);
    }

    private static void fourColumns() {
        CHECK.fresh("create t(a int,b int,c int,d text)", "insert t(1,2,3,'x')", "insert t(4,5,null,'y')",
            "insert t(7,8,9,null)", "insert t(10,11,12,'z')");
        CHECK.act("select e from t", -1001);
        CHECK.act("update t set e=1", -1001);
        CHECK.act("delete t where b=5", 1);
        CHECK.table(0, "1,2,3,'x'|7,8,9,null|10,11,12,'z'");
        CHECK.act("delete t where a=1", 1);
        CHECK.act("update t set d='q'where d is null", 1);
        CHECK.table(0, "7,8,9,'q'|10,11,12,'z'");
        CHECK.act("delete t where a=99", 0);
        CHECK.select("select d,c,b,a from t", "'q',9,8,7|'z',12,11,10");
    }

    private static void update() {
        CHECK.fresh("create t(a int,b int,c text)", "insert t(1,10,'a')", "insert t(2,20,null)",
            "insert t(null,30,'c')");
        CHECK.act("update t set a=b+a", 3);
        CHECK.table(0, "11,10,'a'|22,20,null|null,30,'c'");
        CHECK.act("update t set b=a where a>11", 1);
        CHECK.table(0, "11,10,'a'|22,22,null|null,30,'c'");
        CHECK.act("update t set a=5 where a is null", 1);
        CHECK.act("update t set b=null where c='a'", 1);
        CHECK.select("select a,b,c from t", "11,null,'a'|22,22,null|5,30,'c'");
        CHECK.act("update t set c='zz'where c<>'q'", 2);
        CHECK.act("update t set a=1 where a=99", 0);
        CHECK.act("update t set a=1 where b=null", 0);
        CHECK.select("select a,b,c from t", "11,null,'zz'|22,22,null|5,30,'zz'");
        CHECK.act("update t set a=a", 3);
        CHECK.fresh("create t(a int)", "insert t(1)", "insert t(2)", "create u(a int)");
        // What was marked for an update is not marked for the next statement.
        CHECK.act("update t set a=3 where a=1", 1);
        CHECK.act("update t set a=4 where a=2", 1);
        CHECK.act("delete t where a=4", 1);
        CHECK.table(0, "3");
        CHECK.act("update u set a=1", 0);
        CHECK.act("update u set a=1/0", 0);
    }

    private static void faultsChangeNothing() {
        CHECK.fresh("create t(a int,b text)", "insert t(4,'a')", "insert t(2,'b')", "insert t(0,'c')");
        CHECK.select("select b from t where a=2", "'b'");
        CHECK.act("update t set a=8/a", ZERO);
        CHECK.act("update t set a=1 where 8/a>2", ZERO);
        CHECK.act("delete t where 8/a>2", ZERO);
        CHECK.act("select 8/a from t", ZERO);
        CHECK.act("select a from t order 2", -1002);
        CHECK.act("select a from u", -1001);
        CHECK.act("select a frm t", -3);
        CHECK.act("insert t(1,2)", -1002);
        CHECK.act("create t(z int)", -1003);
        CHECK.act("create u(z int,z int)", -1003);
        CHECK.result("'b'");
        CHECK.table(0, "4,'a'|2,'b'|0,'c'");
        CHECK.size(1, QueryForge.BAD);
        CHECK.act("create u(y text)", 0);
        CHECK.act("insert u('y')", 1);
        CHECK.act("select z from u", -1001);
        CHECK.act("insert t(9,'d')", 1);
        CHECK.table(0, "4,'a'|2,'b'|0,'c'|9,'d'");
        CHECK.table(1, "'y'");
    }
}
