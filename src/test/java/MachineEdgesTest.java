import java.lang.reflect.Field;
import java.lang.reflect.Method;

/**
 * Promises 10 and 11; each method is of one sentence of the document. No run of calls makes the machine do too
 * many words, or one that it does not know: what bounded and sound answer then is looked at from inside.
 */
public final class MachineEdgesTest {
    private static final Check CHECK = new Check("MachineEdgesTest");

    public static void main(String[] args) throws ReflectiveOperationException {
        noneReachedIt();
        everyStatement();
        greatestTables();
        wordsDone();
        wordsOfTheText();
        rowsOfTheTable();
        rowsOfTwoTables();
        lastThatReachedIt();
        unknownWords();
        CHECK.end();
    }

    private static void noneReachedIt() {
        CHECK.says("True also: none did. True also: none was.");
        CHECK.fresh();
        CHECK.bounded();
        CHECK.sound();
        String[] refused = {"", "!", "delete t", "create t(a int,a int)", "select 1"};
        int[] faults = {-1, -1, -1001, -1003, -3};
        for (int i = 0; i < refused.length; i++) {
            CHECK.act(refused[i], faults[i]);
            CHECK.bounded();
            CHECK.sound();
        }
    }

    private static void everyStatement() {
        CHECK.says("Whether the machine did, for the last statement that reached it, no more than 400 words");
        CHECK.fresh();
        String[] statements = {"create t(a int,b text)", "insert t(0,'x')", "insert t(null,null)",
            "update t set a=a+1 where b='x'", "update t set a=1/0", "select a,b from t order 1 desc",
            "select b,sum(a),min(a),max(a) from t group b order 2", "select count(1) from t,t where not 1=2 or 2>1",
            "select sum(2147483647) from t", "delete t where a is null", "delete t", "select -1 from t,t"};
        int[] answers = {0, 1, 1, 1, -1004, 2, 2, 1, -1005, 1, 1, 0};
        for (int i = 0; i < statements.length; i++) {
            CHECK.act(statements[i], answers[i]);
            CHECK.bounded();
            CHECK.sound();
        }
    }

    private static void greatestTables() {
        CHECK.says("no more than 400 words times the words of the text, times one more than the rows");
        CHECK.fresh("create t(a int)");
        for (int n = 0; n < 24; n++) {
            CHECK.act("insert t(1)", 1);
        }
        String[] statements = {"select 1 from t,t", "select 1,1,1,1 from t,t order 4", "select a from t group a",
            "select max(1) from t,t", "update t set a=a", "delete t where 1=2", "delete t"};
        int[] answers = {576, 576, 1, 1, 24, 0, 24};
        for (int i = 0; i < statements.length; i++) {
            CHECK.act(statements[i], answers[i]);
            CHECK.bounded();
            CHECK.sound();
        }
    }

    private static void wordsDone() throws ReflectiveOperationException {
        CHECK.says("Whether the machine did, for the last statement that reached it,");
        QueryForge forge = new QueryForge();
        // NUMBERS, TABLE, END.
        act(forge, "create t(a int)");
        CHECK.due("words done for a create", done(forge), 3);
        // OUTER, NEXT_OUTER, DROP, END.
        act(forge, "delete t");
        CHECK.due("words done for a delete of no rows", done(forge), 4);
        act(forge, "insert t(1)");
        // MARK, JUMP and NEXT_OUTER once more.
        act(forge, "delete t");
        CHECK.due("words done for a delete of a row", done(forge), 7);
    }

    private static void wordsOfTheText() throws ReflectiveOperationException {
        CHECK.says("times the words of the text,");
        QueryForge forge = new QueryForge();
        most(forge, "create t(a int)", 400L * 6);
        most(forge, "create u(a int,b text)", 400L * 9);
        most(forge, "delete t", 400L * 2);
        most(forge, "  delete  t  where  a<=-1  ", 400L * 7);
        most(forge, "select 'abcd',22 from t", 400L * 6);
    }

    private static void rowsOfTheTable() throws ReflectiveOperationException {
        CHECK.says("times one more than the rows of its table,");
        QueryForge forge = new QueryForge();
        act(forge, "create t(a int)");
        most(forge, "select a from t", 400L * 4);
        act(forge, "insert t(1)");
        most(forge, "select a from t", 400L * 4 * 2);
        act(forge, "insert t(1)");
        act(forge, "insert t(1)");
        most(forge, "update t set a=a", 400L * 6 * 4);
        most(forge, "select 1/0 from t", 400L * 6 * 4);
        most(forge, "delete t", 400L * 2 * 4);
        most(forge, "create u(a int)", 400L * 6);
    }

    private static void rowsOfTwoTables() throws ReflectiveOperationException {
        CHECK.says("or than those of its first table times those of the second one (1 at least).");
        QueryForge forge = new QueryForge();
        act(forge, "create t(a int)");
        act(forge, "create u(a int)");
        most(forge, "select 1 from t,u", 400L * 6);
        for (int n = 0; n < 3; n++) {
            act(forge, "insert t(1)");
        }
        most(forge, "select 1 from t,u", 400L * 6 * 4);
        most(forge, "select 1 from u,t", 400L * 6);
        act(forge, "insert u(1)");
        most(forge, "select 1 from t,u", 400L * 6 * 4);
        act(forge, "insert u(1)");
        most(forge, "select 1 from t,u", 400L * 6 * 7);
        most(forge, "select 1 from t,t", 400L * 6 * 10);
    }

    private static void lastThatReachedIt() throws ReflectiveOperationException {
        CHECK.says("for the last statement that reached it,");
        QueryForge forge = new QueryForge();
        act(forge, "create t(a int)");
        setDone(forge, 400L * 6 + 1);
        for (String refused : new String[] {"", "delete z", "select -'x' from t", "create t(a int)"}) {
            act(forge, refused);
            CHECK.due("bounded() is still of the one before \"" + refused + "\"", forge.bounded(), false);
        }
        act(forge, "delete t");
        CHECK.due("bounded() is of the one that reached it", forge.bounded(), true);
    }

    private static void unknownWords() throws ReflectiveOperationException {
        CHECK.says("Whether all words that the last statement was turned into, and that were done, "
            + "are words of the machine that it knows.");
        for (int word : new int[] {Integer.MIN_VALUE, -1, 0, 50, 51, Integer.MAX_VALUE}) {
            QueryForge forge = new QueryForge();
            act(forge, "create t(a int)");
            runWord(forge, word);
            CHECK.due("sound() behind word " + word, forge.sound(), false);
            act(forge, "delete t");
            CHECK.due("sound() behind a statement", forge.sound(), true);
        }
        for (int word = 1; word <= 49; word++) {
            QueryForge forge = new QueryForge();
            runWord(forge, word);
            CHECK.due("sound() behind word " + word, forge.sound(), true);
        }
    }

    /** Does the statement; bounded answers true up to that many words, and no farther. */
    private static void most(QueryForge forge, String text, long words) throws ReflectiveOperationException {
        act(forge, text);
        CHECK.due("bounded() behind \"" + text + "\"", forge.bounded(), true);
        setDone(forge, words);
        CHECK.due("bounded() of " + words + " words for \"" + text + "\"", forge.bounded(), true);
        setDone(forge, words + 1);
        CHECK.due("bounded() of one more for \"" + text + "\"", forge.bounded(), false);
    }

    private static int act(QueryForge forge, String text) {
        for (char sign : text.toCharArray()) {
            forge.unit(sign);
        }
        return forge.act();
    }

    private static long done(QueryForge forge) throws ReflectiveOperationException {
        return (Long) field(machine(forge), "done").get(machine(forge));
    }

    private static void setDone(QueryForge forge, long words) throws ReflectiveOperationException {
        field(machine(forge), "done").set(machine(forge), words);
    }

    /** Does a program of this word and an END. */
    private static void runWord(QueryForge forge, int word) throws ReflectiveOperationException {
        Object machine = machine(forge);
        Object program = field(machine, "program").get(machine);
        int[] operations = (int[]) field(program, "operations").get(program);
        operations[0] = word;
        operations[1] = 27;
        field(program, "length").set(program, 2);
        Method run = machine.getClass().getDeclaredMethod("run", int.class);
        run.setAccessible(true);
        run.invoke(machine, 1);
    }

    private static Object machine(QueryForge forge) throws ReflectiveOperationException {
        return field(forge, "machine").get(forge);
    }

    private static Field field(Object object, String name) throws ReflectiveOperationException {
        Field field = object.getClass().getDeclaredField(name);
        field.setAccessible(true);
        return field;
    }
}
