/** Terms: words, numbers, reserved words and names; each method is of one sentence of the document. */
public final class WordEdgesTest {
    private static final int NAME = -1001;
    private static final String[] RESERVED = {"create", "insert", "delete", "update", "set", "select", "from",
        "where", "group", "order", "desc", "int", "text", "null", "is", "and", "or", "not", "sum", "count",
        "min", "max"};
    private static final String SIGNS = "()[],.+-*/=<>";
    private static final Check CHECK = new Check("WordEdgesTest");

    public static void main(String[] args) {
        letters();
        digits();
        texts();
        everySign();
        signsThatBeginNoWord();
        longestFirst();
        blanks();
        numberDigits();
        numberGreatest();
        reserved();
        almostReserved();
        names();
        namesAreToldApart();
        CHECK.end();
    }

    private static void letters() {
        CHECK.says("WORDS of a text are: rows of small letters;");
        CHECK.fresh("create az(za int)", "insert az(1)");
        CHECK.act("select az.za from az", 1);
        CHECK.refused("select z a from az", -3);
        for (char sign : "`{@[AZ_".toCharArray()) {
            CHECK.refusedWord("select " + sign + " from az", 1);
            CHECK.refusedWord("select z" + sign + "a from az", 2);
            CHECK.refusedWord("select za from a" + sign, 4);
        }
    }

    private static void digits() {
        CHECK.says("rows of digits;");
        CHECK.fresh("create t(a int,b text)");
        CHECK.act("insert t(0123456789,'x')", 1);
        CHECK.cell(0, 0, 0, 123456789);
        CHECK.refusedWord("insert t(1 2,'x')", 4);
        CHECK.refusedWord("insert t(1:,'x')", 4);
        CHECK.refusedWord("insert t(:1,'x')", 3);
        CHECK.refusedWord("insert t(1/2,'x')", 4);
        CHECK.refusedWord("insert t(1a,'x')", 4);
        CHECK.refusedWord("insert t(a1,'x')", 3);
    }

    private static void texts() {
        CHECK.says("' one to four small letters ' (a TEXT);");
        CHECK.fresh("create t(a int,b text)");
        String[] right = {"a", "z", "az", "zza", "zzzz", "aaaa", "from", "null"};
        for (int i = 0; i < right.length; i++) {
            CHECK.act("insert t(1,'" + right[i] + "')", 1);
        }
        CHECK.table(0, "1,'a'|1,'z'|1,'az'|1,'zza'|1,'zzzz'|1,'aaaa'|1,'from'|1,'null'");
        String[] wrong = {"''", "'aaaaa'", "'zzzzz'", "'abcdefghijklmnop'", "'A'", "'Z'", "'`'", "'{'", "'1'",
            "' '", "' a'", "'a '", "'a b'", "'a,'", "'a", "'", "'aaaaa", "'ab(c'", "'''"};
        CHECK.fresh("create t(a int,b text)", "insert t(1,'q')", "select b from t");
        for (String text : wrong) {
            CHECK.refusedWord("insert t(1," + text + ")", 5);
            CHECK.refusedWord("select b," + text + " from t", 3);
            CHECK.refusedWord("delete t where b=" + text, 5);
        }
        CHECK.refusedWord("insert t(1,a')", 5);
        CHECK.refusedWord("insert t(1,'a'')", 6);
        // The last of two hundred signs: a text that begins there, one that is cut off, one that ends.
        CHECK.refusedWord("delete t where b=" + " ".repeat(182) + "'", 5);
        CHECK.refusedWord("delete t where b=" + " ".repeat(180) + "'qq", 5);
        CHECK.act("delete t where b=" + " ".repeat(180) + "'q'", 1);
    }

    private static void everySign() {
        CHECK.says("and ( ) [ ] , . + - * / = < > <= >= <>");
        CHECK.fresh("create t(a int,b int)", "insert t(7,2)");
        CHECK.select("select a+b,a-b,a*b,a/b from t", "9,5,14,3");
        CHECK.select("select (t.a) from t where [a=7]", "7");
        String[] signs = {"=", "<", ">", "<=", ">=", "<>"};
        int[] answers = {0, 0, 1, 0, 1, 1};
        for (int i = 0; i < signs.length; i++) {
            CHECK.act("select a from t where a" + signs[i] + "b", answers[i]);
        }
    }

    private static void signsThatBeginNoWord() {
        CHECK.says("and ( ) [ ] , . + - * / = < > <= >= <> (the longest first).");
        CHECK.fresh("create t(a int,b text)", "insert t(7,'x')", "select a from t");
        int count = 0;
        for (char sign = 33; sign <= 126; sign++) {
            boolean beginsWord = sign >= 'a' && sign <= 'z' || sign >= '0' && sign <= '9' || sign == '\''
                || SIGNS.indexOf(sign) >= 0;
            if (!beginsWord) {
                count++;
                CHECK.refusedWord("" + sign, 0);
                CHECK.refusedWord(sign + "delete t", 0);
                CHECK.refusedWord("delete" + sign + "t", 1);
                CHECK.refusedWord("delete t" + sign, 2);
                CHECK.refusedWord("select a from t where a" + sign + "1", 6);
            }
        }
        CHECK.due("signs that begin no word", count, 44);
    }

    private static void longestFirst() {
        CHECK.says("(the longest first).");
        CHECK.fresh("create t(a int)", "insert t(5)");
        CHECK.act("select a from t where a<=5and a>=5and a<>6", 1);
        String[] split = {"< =", "> =", "< >", "=<", "=>", "==", "><", "<<=", "<>=", "<=>", "<>>", ">=="};
        for (String signs : split) {
            CHECK.refusedWord("select a from t where a" + signs + "5", 7);
        }
        CHECK.act("select a from t where a>-5", 1);
        CHECK.act("select a from t where a=-5", 0);
        CHECK.refusedWord("delete t where a<=", 5);
        CHECK.refusedWord("delete t where a<", 5);
    }

    private static void blanks() {
        CHECK.says("Blanks lie between words, or not.");
        CHECK.fresh();
        CHECK.act("   create   t  (  a   int ,  b  text  )   ", 0);
        CHECK.act("insert t(-5,'x')", 1);
        CHECK.act(" insert t ( - 6 , 'y' ) ", 1);
        CHECK.select("select(a)*2,b from t where[a=-5]and b='x'or 1=2order 1desc", "-10,'x'");
        CHECK.act("select 1 from t , t where 1 < 2 and 3 is null", 0);
        CHECK.act("select t . a from t where t . a <= - 5 order 1 desc", 2);
        CHECK.fresh("create t(a int,b text)", "insert t(5,'x')");
        CHECK.refusedWord("deletet", 0);
        CHECK.refusedWord("dele te t", 0);
        CHECK.refusedWord("select a fromt", 2);
        CHECK.refusedWord("select a from t whereb='x'", 4);
        CHECK.refusedWord("select a from t order 1 2", 6);
        CHECK.refusedWord(" ", 0);
        CHECK.refusedWord(" ".repeat(200), 0);
    }

    private static void numberDigits() {
        CHECK.says("A NUMBER has 1 to 10 digits");
        CHECK.fresh("create t(a int,b text)", "insert t(0,'x')", "insert t(9,'x')");
        CHECK.act("insert t(0000000000,'x')", 1);
        CHECK.act("insert t(-0000000007,'x')", 1);
        CHECK.table(0, "0,'x'|9,'x'|0,'x'|-7,'x'");
        CHECK.refusedWord("insert t(00000000000,'x')", 3);
        CHECK.refusedWord("insert t(00000000007,'x')", 3);
        CHECK.refusedWord("insert t(-00000000007,'x')", 4);
        CHECK.refusedWord("select 00000000001 from t", 1);
        CHECK.act("select 0000000001 from t order 0000000001", 4);
        CHECK.refusedWord("select a from t order 00000000001", 5);
        CHECK.refusedWord("select a from t where a=" + "0".repeat(170) + "1", 7);
    }

    private static void numberGreatest() {
        CHECK.says("and is at most 2,147,483,647.");
        CHECK.fresh("create t(a int,b text)", "insert t(2147483647,'x')", "insert t(-2147483647,'x')");
        CHECK.table(0, "2147483647,'x'|-2147483647,'x'");
        CHECK.act("select a from t where a=2147483647", 1);
        CHECK.act("select a from t where a=-2147483647", 1);
        // Some of them are 1, or 2147483647, if they are cut to 32 or 64 bits.
        String[] wrong = {"2147483648", "2147483650", "2200000000", "3000000000", "4294967295", "4294967296",
            "4294967297", "6442450943", "9999999999", "10000000000", "18446744073709551617"};
        for (String number : wrong) {
            CHECK.refusedWord("insert t(" + number + ",'x')", 3);
            CHECK.refusedWord("insert t(-" + number + ",'x')", 4);
            CHECK.refusedWord("select -" + number + " from t", 2);
            CHECK.refusedWord("delete t where a<" + number, 5);
            CHECK.refusedWord("update t set a=" + number, 5);
            CHECK.refusedWord("select a from t order " + number, 5);
        }
    }

    private static void reserved() {
        CHECK.says("RESERVED are create, insert, delete, update, set, select, from, where, group, order, desc, "
            + "int, text, null, is, and, or, not, sum, count, min, max.");
        CHECK.fresh("create t(a int,b text)", "insert t(5,'x')");
        for (String word : RESERVED) {
            CHECK.refusedWord("create " + word + "(a int)", 1);
            CHECK.refusedWord("create u(" + word + " int)", 3);
            CHECK.refusedWord("create u(a int," + word + " int)", 6);
            CHECK.refusedWord("insert " + word + "(1)", 1);
            CHECK.refusedWord("delete " + word, 1);
            CHECK.refusedWord("update " + word + " set a=1", 1);
            CHECK.refusedWord("update t set " + word + "=1", 3);
            CHECK.refusedWord("select a from " + word, 3);
            CHECK.refusedWord("select a from t," + word, 5);
            CHECK.refusedWord("select t." + word + " from t", 3);
            CHECK.refusedWord("select a from t group " + word, 5);
            CHECK.refusedWord("select a from t group t." + word, 7);
            boolean isFactor = word.equals("null");
            boolean isOfItems = word.matches("null|sum|count|min|max");
            CHECK.refusedWord("select " + word + ".a from t", isOfItems ? 2 : 1);
            CHECK.refusedWord("select a+" + word + ".a from t", isFactor ? 4 : 3);
            CHECK.refusedWord("delete t where " + word + ".a=1", isFactor || word.equals("not") ? 4 : 3);
        }
    }

    private static void almostReserved() {
        CHECK.says("not reserved.");
        for (String word : RESERVED) {
            String shorter = word.substring(0, word.length() - 1);
            String longer = word.length() < 6 ? word + "s" : "a";
            CHECK.fresh();
            CHECK.act("create " + shorter + "(" + longer + " int,b text)", 0);
            CHECK.act("insert " + shorter + "(8,'x')", 1);
            CHECK.select("select " + longer + " from " + shorter, "8");
            CHECK.act("create " + (word.length() < 6 ? word + "e" : "by") + "(as int)", 0);
        }
    }

    private static void names() {
        CHECK.says("A NAME is 1 to 6 letters,");
        CHECK.fresh("create z(a int)", "create abcdef(zyxwvu int,b text)", "insert abcdef(3,'x')");
        CHECK.select("select abcdef.zyxwvu from abcdef", "3");
        CHECK.act("update abcdef set zyxwvu=4 where zyxwvu=3", 1);
        CHECK.select("select zyxwvu from abcdef group abcdef.zyxwvu", "4");
        CHECK.act("delete abcdef", 1);
        CHECK.refusedWord("create abcdefg(a int)", 1);
        CHECK.refusedWord("create u(abcdefg int)", 3);
        CHECK.refusedWord("insert abcdefg(1,'x')", 1);
        CHECK.refusedWord("delete abcdefg", 1);
        CHECK.refusedWord("update abcdefg set a=1", 1);
        CHECK.refusedWord("update z set abcdefg=1", 3);
        CHECK.refusedWord("select zyxwvut from abcdef", 1);
        CHECK.refusedWord("select abcdefg.zyxwvu from abcdef", 1);
        CHECK.refusedWord("select abcdef.zyxwvut from abcdef", 3);
        CHECK.refusedWord("select a from abcdefg", 3);
        CHECK.refusedWord("select a from z,abcdefg", 5);
        CHECK.refusedWord("select a from z group abcdefg", 5);
        CHECK.refusedWord("create " + "z".repeat(190), 1);
        CHECK.refusedWord("create selects(a int)", 1);
    }

    private static void namesAreToldApart() {
        CHECK.says("A NAME is 1 to 6 letters, not reserved.");
        CHECK.fresh("create z(a int,aa int,aaaaaa int,zzzzzz int)", "create zz(azzzzz int,zzzzza int)",
            "create zzzzzz(z int)", "create zzzzzy(z int)", "insert z(1,2,3,4)", "insert zz(5,6)",
            "insert zzzzzz(7)", "insert zzzzzy(8)");
        CHECK.select("select zzzzzz,aaaaaa,aa,a from z", "4,3,2,1");
        CHECK.select("select zzzzza,azzzzz from zz", "6,5");
        CHECK.select("select zzzzzy.z,zzzzzz.z from zzzzzz,zzzzzy", "8,7");
        CHECK.refused("select aaa from z", NAME);
        CHECK.refused("select zzzzz from z", NAME);
        CHECK.refused("select azzzzy from zz", NAME);
        CHECK.refused("select a from zzz", NAME);
        CHECK.refused("select z from zzzzzx", NAME);
        CHECK.refused("select z from azzzzz", NAME);
        for (char letter = 'a'; letter <= 'z'; letter++) {
            String twice = letter + "" + letter;
            CHECK.fresh("create " + twice + "(" + letter + " int)", "create " + letter + "(" + twice + " int)");
            CHECK.act("select " + letter + " from " + twice, 0);
            CHECK.refused("select " + letter + " from " + letter, NAME);
            CHECK.refused("select m" + letter + "z from " + letter, NAME);
            CHECK.refused("select " + letter + "a from " + twice, NAME);
        }
    }
}
