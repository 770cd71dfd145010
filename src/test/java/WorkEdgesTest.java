/** Terms: what is worked out, rows, groups and order; each method is of one sentence of the document. */
public final class WorkEdgesTest {
    private static final int TYPE = -1002;
    private static final int ZERO = -1004;
    private static final int OVERFLOW = -1005;
    private static final String[] SIGNS = {"=", "<>", "<", ">", "<=", ">="};
    private static final Check CHECK = new Check("WorkEdgesTest");

    public static void main(String[] args) {
        nullIsNeither();
        nullWithNull();
        zero();
        zeroIsOnlyFoundInRows();
        overflowOfAddition();
        overflowOfSubtraction();
        overflowOfMultiplication();
        overflowOfNegationAndDivision();
        overflowOnTheWay();
        cutOff();
        signWithNull();
        dictionaries();
        logic();
        rowsOfOneTable();
        rowsOfTwoTables();
        allOfTheCondition();
        onlyIfTrue();
        firstFault();
        delete();
        update();
        aggregatesWithoutNull();
        count();
        sum();
        sumInTheEnd();
        minAndMax();
        withoutAny();
        oneRow();
        groups();
        groupsInOrder();
        orderRising();
        orderTheOtherWayRound();
        equalOnesStay();
        orderOfFewAndMany();
        CHECK.end();
    }

    private static void one() {
        CHECK.fresh("create t(a int,b text)", "insert t(7,'m')", "select b,a from t");
    }

    /** A table with as many rows as there is room for: 0 to 23. */
    private static void full() {
        CHECK.fresh("create t(a int)");
        for (int n = 0; n < 24; n++) {
            CHECK.act("insert t(" + n + ")", 1);
        }
    }

    private static void nullIsNeither() {
        CHECK.says("WORKED OUT: null is neither a number nor a text;");
        one();
        CHECK.act("insert t(null,null)", 1);
        CHECK.select("select null,-null,null+1,a from t where a is null", "null,null,null,null");
        CHECK.act("select 1 from t where null=1 or null='x'or null=null", 0);
        CHECK.act("select 1 from t where b<>null or a<>null", 0);
        CHECK.act("update t set b=null where a=7", 1);
        CHECK.act("update t set a=null", 2);
        CHECK.select("select a,b from t", "null,null|null,null");
        CHECK.select("select sum(null),min(null),count(null) from t", "null,null,0");
        // A 0 is no null.
        CHECK.act("insert t(0,'a')", 1);
        CHECK.select("select a from t where not a is null", "0");
        CHECK.act("select a from t where 0 is null or 'a' is null", 0);
    }

    private static void nullWithNull() {
        CHECK.says("what signs + - * / give is a number, null with null.");
        one();
        CHECK.select("select null+1,1+null,null-1,1-null from t", "null,null,null,null");
        CHECK.select("select null*0,0*null,null/1,1/null from t", "null,null,null,null");
        CHECK.select("select null+null,-null,-(1+null),1+2*(3-null) from t", "null,null,null,null");
        CHECK.select("select 2147483647+null,a+1 from t", "null,8");
        CHECK.refused("delete t where null+1='x'", TYPE);
        CHECK.refused("delete t where b=null*null", TYPE);
        CHECK.refused("delete t where -null<b", TYPE);
        CHECK.refused("update t set b=1-null", TYPE);
        CHECK.act("update t set a=1-null", 1);
        CHECK.select("select a from t", "null");
    }

    private static void zero() {
        CHECK.says("ZERO - 1,004: a number by 0.");
        one();
        for (String item : new String[] {"1/0", "0/0", "-1/0", "2147483647/0", "1/(a-7)", "1/-0", "a/0", "5/(1/2)"}) {
            CHECK.refused("select " + item + " from t", ZERO);
            CHECK.refused("select sum(" + item + ") from t", ZERO);
            CHECK.refused("update t set a=" + item, ZERO);
            CHECK.refused("delete t where " + item + "=1", ZERO);
            CHECK.refused("delete t where " + item + " is null", ZERO);
        }
        CHECK.select("select null/0,0/null,0/1,0/-1 from t", "null,null,0,0");
        CHECK.select("select 7/1,7/-1,(a-a)/a from t", "7,-7,0");
    }

    private static void zeroIsOnlyFoundInRows() {
        CHECK.says("if it is true (or there is none), then the items, or what update gives.");
        CHECK.fresh("create t(a int,b text)");
        CHECK.act("select 1/0 from t", 0);
        CHECK.act("select 1 from t where 1/0=1", 0);
        CHECK.act("update t set a=1/0", 0);
        CHECK.act("delete t where 2147483647+1=1", 0);
        one();
        CHECK.act("select 1/0 from t where a=8", 0);
        CHECK.act("select 1/0 from t where a=null", 0);
        CHECK.act("update t set a=2147483647+1 where a=8", 0);
        CHECK.select("select sum(1/0) from t where a=8", "null");
    }

    private static void overflowOfAddition() {
        CHECK.says("OVERFLOW - 1,005: what is not of 32 bits with sign.");
        one();
        CHECK.select("select 2147483647+0,2147483646+1,-2147483647+-1,0+-2147483647 from t",
            "2147483647,2147483647,-2147483648,-2147483647");
        overflows("2147483647+1", "1+2147483647", "2147483647+2147483647", "-2147483647+-2",
            "-2147483647-1+-1", "-2147483647-1+(-2147483647-1)");
    }

    private static void overflowOfSubtraction() {
        CHECK.says("OVERFLOW - 1,005: what is not of 32 bits with sign.");
        one();
        CHECK.select("select -2147483647-1,0-2147483647,2147483646- -1,-1-(-2147483647-1) from t",
            "-2147483648,-2147483647,2147483647,2147483647");
        overflows("-2147483647-2", "2147483647- -1", "0-(-2147483647-1)", "-2-2147483647", "1-(-2147483647)",
            "2147483647-(-2147483647-1)");
    }

    private static void overflowOfMultiplication() {
        CHECK.says("OVERFLOW - 1,005: what is not of 32 bits with sign.");
        one();
        CHECK.select("select 65536*-32768,2147483647*1,2147483647*-1,46340*46341 from t",
            "-2147483648,2147483647,-2147483647,2147441940");
        CHECK.select("select 1073741824*-2,-1073741824*2,(-2147483647-1)*1,0*2147483647 from t",
            "-2147483648,-2147483648,-2147483648,0");
        overflows("65536*32768", "46341*46341", "65536*65536", "65536*-32769", "1073741824*2", "2147483647*2147483647",
            "-2147483647*2147483647", "(-2147483647-1)*-1", "(-2147483647-1)*(-2147483647-1)", "65537*65537");
    }

    private static void overflowOfNegationAndDivision() {
        CHECK.says("OVERFLOW - 1,005: what is not of 32 bits with sign.");
        one();
        CHECK.select("select --2147483647,-(2147483647),(-2147483647-1)/1,2147483647/-1 from t",
            "2147483647,-2147483647,-2147483648,-2147483647");
        CHECK.select("select (-2147483647-1)/2,(-2147483647-1)/(-2147483647-1),(-2147483647-1)/2147483647 from t",
            "-1073741824,1,-1");
        overflows("-(-2147483647-1)", "(-2147483647-1)/-1", "--(-2147483647-1)");
    }

    private static void overflowOnTheWay() {
        CHECK.says("OVERFLOW - 1,005: what is not of 32 bits with sign.");
        one();
        overflows("2147483647+1-1", "2147483647*2/2", "-2147483647-2+2", "0*(65536*65536)", "65536*65536/65536");
    }

    private static void overflows(String... expressions) {
        for (String expression : expressions) {
            CHECK.refused("select " + expression + " from t", OVERFLOW);
            CHECK.refused("select max(" + expression + ") from t", OVERFLOW);
            CHECK.refused("update t set a=" + expression, OVERFLOW);
            CHECK.refused("delete t where 0<" + expression + " or 1=1", OVERFLOW);
        }
    }

    private static void cutOff() {
        CHECK.says("/ is cut off.");
        one();
        CHECK.select("select 7/2,-7/2,7/-2,-7/-2 from t", "3,-3,-3,3");
        CHECK.select("select 1/2,-1/2,1/-2,-1/-2 from t", "0,0,0,0");
        CHECK.select("select 6/3,-6/3,5/6,-5/6 from t", "2,-2,0,0");
        CHECK.select("select 2147483647/2,-2147483647/2,2147483646/2147483647,a/8 from t",
            "1073741823,-1073741823,0,0");
    }

    private static void signWithNull() {
        CHECK.says("a SIGN with null is unknown;");
        for (String sign : SIGNS) {
            for (String sides : new String[] {"null%s7", "7%snull", "null%snull", "null%s'x'", "'x'%snull", "a%snull",
                "null%sa+1", "1+null%s1", "(null)%sb"}) {
                truth(sides.replace("%s", sign), 1);
            }
        }
    }

    private static void dictionaries() {
        CHECK.says("texts are in the order of dictionaries;");
        String[] rising = {"a", "aa", "aaaa", "aaab", "ab", "abz", "az", "azzz", "b", "ba", "y", "z", "za", "zzz",
            "zzzy", "zzzz"};
        for (int left = 0; left < rising.length; left++) {
            for (int right = 0; right < rising.length; right++) {
                String pair = "'" + rising[left] + "'%s'" + rising[right] + "'";
                truth(pair.replace("%s", "<"), left < right ? 2 : 0);
                truth(pair.replace("%s", ">="), left >= right ? 2 : 0);
                truth(pair.replace("%s", ">"), left > right ? 2 : 0);
                truth(pair.replace("%s", "<="), left <= right ? 2 : 0);
                truth(pair.replace("%s", "="), left == right ? 2 : 0);
                truth(pair.replace("%s", "<>"), left != right ? 2 : 0);
            }
        }
    }

    private static void logic() {
        CHECK.says("not, and, or: false below unknown below true, and is the lesser one, or the greater one, "
            + "not turns true and false.");
        String[] kinds = {"1=2", "1=null", "1=1"};
        for (int left = 0; left < 3; left++) {
            truth(kinds[left], left);
            truth("not " + kinds[left], 2 - left);
            truth("not not " + kinds[left], left);
            for (int right = 0; right < 3; right++) {
                truth(kinds[left] + " and " + kinds[right], Math.min(left, right));
                truth(kinds[left] + " or " + kinds[right], Math.max(left, right));
                truth("not[" + kinds[left] + " and " + kinds[right] + "]", 2 - Math.min(left, right));
                truth("not " + kinds[left] + " or " + kinds[right], Math.max(2 - left, right));
            }
        }
        truth("null is null", 2);
        truth("1 is null", 0);
        truth("1+null is null", 2);
        truth("not null is null", 0);
    }

    /** 0 is false, 1 unknown, 2 true: unknown is what neither holds nor holds with not. */
    private static void truth(String condition, int want) {
        one();
        CHECK.act("select 1 from t where " + condition, want == 2 ? 1 : 0);
        CHECK.act("select 1 from t where not[" + condition + "]", want == 0 ? 1 : 0);
    }

    private static void rowsOfOneTable() {
        CHECK.says("Rows of one table in order;");
        CHECK.fresh("create t(a int)");
        CHECK.act("select a from t", 0);
        CHECK.act("insert t(3)", 1);
        CHECK.select("select a from t", "3");
        CHECK.act("insert t(1)", 1);
        CHECK.act("insert t(2)", 1);
        CHECK.select("select a from t", "3|1|2");
        full();
        CHECK.act("select a from t", 24);
        for (int row = 0; row < 24; row++) {
            CHECK.value(row, 0, row);
        }
    }

    private static void rowsOfTwoTables() {
        CHECK.says("of two, for each row of the first one all of the second one.");
        CHECK.fresh("create t(a int)", "create u(c int)");
        CHECK.act("select a,c from t,u", 0);
        CHECK.act("insert t(1)", 1);
        CHECK.act("insert t(2)", 1);
        CHECK.act("select a,c from t,u", 0);
        CHECK.act("select a,c from u,t", 0);
        CHECK.act("select 1/0 from t,u where 1/0=1", 0);
        CHECK.act("insert u(8)", 1);
        CHECK.select("select a,c from t,u", "1,8|2,8");
        CHECK.act("insert u(7)", 1);
        CHECK.select("select a,c from t,u", "1,8|1,7|2,8|2,7");
        CHECK.select("select a,c from u,t", "1,8|2,8|1,7|2,7");
        CHECK.select("select 5 from t,t", "5|5|5|5");
        full();
        CHECK.act("select 5 from t,t", 576);
        CHECK.rows(576);
        CHECK.value(575, 0, 5);
        CHECK.act("create u(c int)", 0);
        CHECK.act("insert u(9)", 1);
        CHECK.act("select a+c from t,u", 24);
        CHECK.value(23, 0, 32);
        CHECK.act("select a+c from u,t", 24);
        CHECK.value(1, 0, 10);
    }

    private static void allOfTheCondition() {
        CHECK.says("For each the condition is worked out, all of it from left to right;");
        one();
        CHECK.refused("delete t where 1=1 or 1/0=1", ZERO);
        CHECK.refused("delete t where 1=2 and 1/0=1", ZERO);
        CHECK.refused("delete t where 1=null and 1/0=1", ZERO);
        CHECK.refused("delete t where 1=2 and[1=2 and 1/0=1]", ZERO);
        CHECK.refused("delete t where null=1/0", ZERO);
        CHECK.refused("delete t where null+1/0=1", ZERO);
        CHECK.refused("delete t where 1/0=2147483647+1", ZERO);
        CHECK.refused("delete t where 2147483647+1=1/0", OVERFLOW);
        CHECK.refused("delete t where 1=2 and 2147483647+1=1 or 1/0=1", OVERFLOW);
        CHECK.refused("delete t where 1/0=1 or 2147483647+1=1", ZERO);
        CHECK.refused("select 2147483647+1 from t where 1/0=1", ZERO);
    }

    private static void onlyIfTrue() {
        CHECK.says("if it is true (or there is none), then the items, or what update gives.");
        CHECK.fresh("create t(a int,b text)", "insert t(1,'x')", "insert t(null,'y')", "insert t(3,'z')");
        CHECK.select("select b from t", "'x'|'y'|'z'");
        CHECK.select("select b from t where a>2", "'z'");
        CHECK.select("select b from t where not a>2", "'x'");
        CHECK.act("update t set b='q'where a<>1", 1);
        CHECK.act("update t set a=4 where not a=1", 1);
        CHECK.act("delete t where a<>1", 1);
        CHECK.select("select a,b from t", "1,'x'|null,'y'");
        CHECK.act("update t set a=5", 2);
        CHECK.act("delete t", 2);
    }

    private static void firstFault() {
        CHECK.says("The first fault is told.");
        CHECK.fresh("create t(a int)", "insert t(2147483647)", "insert t(0)");
        CHECK.refused("select 1/a,a+1 from t", OVERFLOW);
        CHECK.refused("select a+1,1/a from t", OVERFLOW);
        CHECK.refused("select a+1 from t where 1/a>=0", OVERFLOW);
        CHECK.refused("select 1/a from t where a+1>0", OVERFLOW);
        CHECK.refused("update t set a=a+1 where 1/a>=0", OVERFLOW);
        CHECK.refused("update t set a=a+1 where 1/a>0", ZERO);
        CHECK.refused("select sum(a+a),count(1/a) from t", OVERFLOW);
        CHECK.fresh("create t(a int)", "insert t(0)", "insert t(2147483647)");
        CHECK.refused("select 1/a,a+1 from t", ZERO);
        CHECK.refused("select a+1,1/a from t", ZERO);
        CHECK.refused("delete t where a+1>0 and 1/a>0", ZERO);
        // What a sum comes to is found behind all rows.
        CHECK.refused("select sum(2147483647),sum(1/a) from t", ZERO);
        CHECK.fresh("create t(a int)", "insert t(2147483647)", "insert t(1)", "insert t(0)");
        CHECK.refused("select sum(a),sum(1/a) from t", ZERO);
        CHECK.refused("select sum(a) from t", OVERFLOW);
    }

    private static void delete() {
        CHECK.says("delete takes all rows for which it is true;");
        CHECK.fresh("create t(a int,b text)", "insert t(1,'x')", "insert t(null,'y')", "insert t(3,null)",
            "insert t(4,'w')");
        CHECK.act("delete t where a=9", 0);
        CHECK.act("delete t where a=1", 1);
        CHECK.table(0, "null,'y'|3,null|4,'w'");
        CHECK.act("delete t where a=4", 1);
        CHECK.table(0, "null,'y'|3,null");
        CHECK.act("delete t where a<9", 1);
        CHECK.select("select a,b from t", "null,'y'");
        CHECK.act("delete t where a is null", 1);
        CHECK.size(0, 0);
        CHECK.act("delete t", 0);
        CHECK.act("insert t(5,null)", 1);
        CHECK.select("select a,b from t", "5,null");
        full();
        CHECK.act("delete t where a/2*2=a", 12);
        CHECK.table(0, "1|3|5|7|9|11|13|15|17|19|21|23");
        CHECK.act("delete t", 12);
        full();
        CHECK.act("delete t", 24);
        CHECK.size(0, 0);
        CHECK.cell(0, 0, 0, QueryForge.BAD);
        CHECK.act("insert t(8)", 1);
        CHECK.table(0, "8");
    }

    private static void update() {
        CHECK.says("update gives all of them the new value at once.");
        CHECK.fresh("create t(a int,b int)", "insert t(1,10)", "insert t(2,20)", "insert t(null,30)");
        CHECK.act("update t set a=a+1 where a<3", 2);
        CHECK.table(0, "2,10|3,20|null,30");
        CHECK.act("update t set a=b/10-a", 3);
        CHECK.select("select a,b from t", "-1,10|-1,20|null,30");
        CHECK.act("update t set b=null where b=20", 1);
        CHECK.act("update t set a=0 where a is null", 1);
        CHECK.select("select a,b from t", "-1,10|-1,null|0,30");
        CHECK.act("update t set a=9 where a=8", 0);
        CHECK.fresh("create t(a int,b int)", "insert t(4,1)", "insert t(2,2)", "insert t(0,3)");
        // The first two rows could have been given theirs: none is, if one can't.
        CHECK.refused("update t set a=8/a", ZERO);
        CHECK.refused("update t set b=8/a", ZERO);
        CHECK.refused("update t set a=2147483645+b", OVERFLOW);
        CHECK.refused("delete t where 8/a>0", ZERO);
        CHECK.table(0, "4,1|2,2|0,3");
        full();
        CHECK.act("update t set a=23-a", 24);
        CHECK.table(0, "23|22|21|20|19|18|17|16|15|14|13|12|11|10|9|8|7|6|5|4|3|2|1|0");
    }

    private static void aggregatesWithoutNull() {
        CHECK.says("Aggregates are of the values that are not null:");
        CHECK.fresh("create t(a int,b text)", "insert t(null,'x')", "insert t(-4,null)", "insert t(6,'a')",
            "insert t(null,null)");
        CHECK.select("select count(a),sum(a),min(a),max(a) from t", "2,2,-4,6");
        CHECK.select("select count(b),min(b),max(b) from t", "2,'a','x'");
        CHECK.select("select count(a+1),sum(-a),min(a*0),max(null) from t", "2,-2,0,null");
    }

    private static void count() {
        CHECK.says("count how many,");
        CHECK.fresh("create t(a int)");
        CHECK.select("select count(a),count(1) from t", "0,0");
        CHECK.act("insert t(null)", 1);
        CHECK.select("select count(a),count(1),count(null),count('x') from t", "0,1,0,1");
        CHECK.act("insert t(0)", 1);
        CHECK.select("select count(a) from t", "1");
        full();
        CHECK.select("select count(a) from t", "24");
        CHECK.select("select count(1) from t,t", "576");
        CHECK.select("select count(1) from t where a<0", "0");
    }

    private static void sum() {
        CHECK.says("sum (OVERFLOW, if it is too great in the end),");
        CHECK.fresh("create t(a int)", "insert t(2147483646)", "insert t(1)");
        CHECK.select("select sum(a),sum(-a) from t", "2147483647,-2147483647");
        CHECK.select("select sum(-a),sum(0) from t", "-2147483647,0");
        CHECK.act("insert t(1)", 1);
        CHECK.select("select sum(-a) from t", "-2147483648");
        CHECK.refused("select sum(a) from t", OVERFLOW);
        CHECK.act("insert t(1)", 1);
        CHECK.refused("select sum(-a) from t", OVERFLOW);
        CHECK.refused("select count(a),sum(-a) from t", OVERFLOW);
        CHECK.refused("select sum(1),sum(a) from t order 1", OVERFLOW);
        CHECK.fresh("create t(a int)", "insert t(1073741824)", "insert t(1073741824)", "insert t(1073741824)",
            "insert t(1073741824)");
        // In 32 bits they would come to 0.
        CHECK.refused("select sum(a) from t", OVERFLOW);
        CHECK.refused("select a,sum(a) from t group a", OVERFLOW);
        CHECK.select("select sum(a-1073741823),min(a) from t", "4,1073741824");
        full();
        CHECK.refused("select sum(2147483647) from t,t", OVERFLOW);
        CHECK.refused("select sum(-2147483647-1) from t,t", OVERFLOW);
        CHECK.select("select sum(a),sum(1),sum(-1) from t", "276,24,-24");
    }

    private static void sumInTheEnd() {
        CHECK.says("if it is too great in the end");
        CHECK.fresh("create t(a int)", "insert t(2147483647)", "insert t(2147483647)", "insert t(-2147483647)",
            "insert t(-2147483647)", "insert t(-2147483647)");
        CHECK.select("select sum(a) from t", "-2147483647");
        CHECK.select("select sum(-a) from t", "2147483647");
        CHECK.refused("select sum(a) from t where a>0", OVERFLOW);
        CHECK.refused("select a,sum(a) from t group a", OVERFLOW);
    }

    private static void minAndMax() {
        CHECK.says("min, max");
        CHECK.fresh("create t(a int,b text)", "insert t(2147483647,'b')", "insert t(-2147483647,'ba')",
            "insert t(0,'azzz')");
        CHECK.select("select min(a),max(a),min(b),max(b) from t", "-2147483647,2147483647,'azzz','ba'");
        CHECK.select("select min(-a-1),max(-a-1) from t", "-2147483648,2147483646");
        CHECK.select("select max(a),min(a) from t where a<0", "-2147483647,-2147483647");
        CHECK.select("select min(a),max(a) from t where a>0", "2147483647,2147483647");
        CHECK.select("select min(5),max('q') from t", "5,'q'");
    }

    private static void withoutAny() {
        CHECK.says("(null without any).");
        CHECK.fresh("create t(a int,b text)");
        CHECK.select("select min(a),max(a),min(b),max(b) from t", "null,null,null,null");
        CHECK.select("select sum(a),count(a) from t", "null,0");
        CHECK.act("insert t(null,'x')", 1);
        CHECK.select("select min(a),max(a),sum(a),count(a) from t", "null,null,null,0");
        CHECK.select("select b,min(a),max(a),sum(a) from t group b", "'x',null,null,null");
        CHECK.act("insert t(0,'x')", 1);
        CHECK.select("select min(a),max(a),sum(a),count(a) from t", "0,0,0,1");
        CHECK.select("select min(a),max(a) from t where b='y'", "null,null");
    }

    private static void oneRow() {
        CHECK.says("Without group they make one row;");
        CHECK.fresh("create t(a int)", "create u(c int)");
        CHECK.select("select count(a) from t", "0");
        CHECK.select("select count(a),max(c) from t,u", "0,null");
        CHECK.act("insert t(4)", 1);
        CHECK.select("select max(a) from t order 1", "4");
        CHECK.select("select max(a),count(1) from t,u", "null,0");
        CHECK.act("insert t(5)", 1);
        CHECK.select("select max(a),min(a) from t order 2 desc", "5,4");
        CHECK.select("select count(a) from t where a>9", "0");
    }

    private static void groups() {
        CHECK.says("with group one for each value of the place, null too,");
        CHECK.fresh("create t(a int,b text)");
        CHECK.act("select a,count(b) from t group a", 0);
        CHECK.items(2);
        CHECK.act("insert t(null,'x')", 1);
        CHECK.select("select a,count(b) from t group a", "null,1");
        CHECK.act("insert t(0,'a')", 1);
        CHECK.act("insert t(null,null)", 1);
        CHECK.act("insert t(-1,'x')", 1);
        CHECK.select("select a,count(1),min(b) from t group a", "null,2,'x'|0,1,'a'|-1,1,'x'");
        CHECK.select("select b,count(1),sum(a) from t group b", "'x',2,-1|'a',1,0|null,1,null");
        CHECK.act("select a from t where a=9 group a", 0);
        full();
        CHECK.act("select a,count(1) from t group a", 24);
        CHECK.value(23, 0, 23);
        CHECK.value(23, 1, 1);
        CHECK.act("create u(c int)", 0);
        CHECK.act("insert u(1)", 1);
        CHECK.act("insert u(1)", 1);
        CHECK.act("select a,count(1),sum(a),max(c) from u,t group a", 24);
        CHECK.value(23, 1, 2);
        CHECK.value(23, 2, 46);
        CHECK.select("select c,count(1),max(a) from u,t group c", "1,48,23");
    }

    private static void groupsInOrder() {
        CHECK.says("in the order in which they come first.");
        CHECK.fresh("create t(a int,b text)", "insert t(3,'c')", "insert t(1,'a')", "insert t(3,'a')",
            "insert t(2,'b')", "insert t(1,'c')");
        CHECK.select("select a from t group a", "3|1|2");
        CHECK.select("select b,sum(a) from t group b", "'c',4|'a',4|'b',2");
        CHECK.select("select a,max(b) from t where b<'c'group a", "1,'a'|3,'a'|2,'b'");
        CHECK.act("create u(c int)", 0);
        CHECK.act("insert u(9)", 1);
        CHECK.act("insert u(8)", 1);
        CHECK.select("select c,count(a) from t,u group c", "9,5|8,5");
        CHECK.select("select a,count(c) from u,t group a", "3,4|1,4|2,2");
    }

    private static void orderRising() {
        CHECK.says("order sorts rows by an item, null before all, then rising,");
        CHECK.fresh("create t(a int,b text)", "insert t(5,'b')", "insert t(-2147483647,'ab')", "insert t(null,'z')",
            "insert t(2147483647,null)", "insert t(0,'a')");
        CHECK.select("select a from t order 1", "null|-2147483647|0|5|2147483647");
        CHECK.select("select b from t order 1", "null|'a'|'ab'|'b'|'z'");
        CHECK.select("select 1,2,a,b from t where a<9 order 4", "1,2,0,'a'|1,2,-2147483647,'ab'|1,2,5,'b'");
        CHECK.select("select 1,a-1 from t where a<1 or a is null order 2", "1,null|1,-2147483648|1,-1");
        CHECK.select("select a,count(b) from t group a order 1",
            "null,1|-2147483647,1|0,1|5,1|2147483647,0");
    }

    private static void orderTheOtherWayRound() {
        CHECK.says("or with desc all the other way round;");
        CHECK.fresh("create t(a int,b text)", "insert t(5,'b')", "insert t(-2147483647,'ab')", "insert t(null,'z')",
            "insert t(2147483647,null)", "insert t(0,'a')");
        CHECK.select("select a from t order 1 desc", "2147483647|5|0|-2147483647|null");
        CHECK.select("select b from t order 1 desc", "'z'|'b'|'ab'|'a'|null");
        CHECK.select("select 1,a-1 from t where a<1 or a is null order 2 desc", "1,-1|1,-2147483648|1,null");
        CHECK.select("select a,count(b) from t group a order 2 desc",
            "5,1|-2147483647,1|null,1|0,1|2147483647,0");
    }

    private static void equalOnesStay() {
        CHECK.says("equal ones stay in order.");
        CHECK.fresh("create t(a int,b int)", "insert t(1,1)", "insert t(null,2)", "insert t(0,3)", "insert t(1,4)",
            "insert t(null,5)", "insert t(0,6)");
        CHECK.select("select a,b from t order 1", "null,2|null,5|0,3|0,6|1,1|1,4");
        CHECK.select("select a,b from t order 1 desc", "1,1|1,4|0,3|0,6|null,2|null,5");
        CHECK.select("select b,7 from t order 2", "1,7|2,7|3,7|4,7|5,7|6,7");
        CHECK.select("select b,7 from t order 2 desc", "1,7|2,7|3,7|4,7|5,7|6,7");
    }

    private static void orderOfFewAndMany() {
        CHECK.says("order sorts rows by an item,");
        CHECK.fresh("create t(a int)");
        CHECK.act("select a from t order 1", 0);
        CHECK.act("insert t(4)", 1);
        CHECK.select("select a from t order 1 desc", "4");
        full();
        CHECK.act("select a/5,a from t order 1 desc", 24);
        int row = 0;
        for (int tens = 4; tens >= 0; tens--) {
            for (int n = tens * 5; n < tens * 5 + 5 && n < 24; n++) {
                CHECK.value(row, 1, n);
                row++;
            }
        }
        CHECK.act("create u(c int)", 0);
        CHECK.act("insert u(1)", 1);
        CHECK.act("insert u(0)", 1);
        CHECK.act("select c,a from t,u order 1", 48);
        CHECK.value(0, 1, 0);
        CHECK.value(23, 0, 0);
        CHECK.value(23, 1, 23);
        CHECK.value(24, 0, 1);
        CHECK.value(24, 1, 0);
        CHECK.value(47, 1, 23);
    }
}
