import java.lang.reflect.Modifier;
import java.util.Arrays;

/** Promise 1, and the public face. */
public final class NewObjectTest {
    private static final Check CHECK = new Check("NewObjectTest");

    public static void main(String[] args) {
        noTables();
        objectsAreApart();
        face();
        CHECK.end();
    }

    private static void noTables() {
        CHECK.fresh();
        for (int table = -1; table <= 4; table++) {
            CHECK.size(table, QueryForge.BAD);
            CHECK.cell(table, 0, 0, QueryForge.BAD);
        }
        CHECK.rows(0);
        CHECK.items(0);
        CHECK.value(0, 0, QueryForge.BAD);
        CHECK.isNull(0, 0, false);
        CHECK.bounded();
        CHECK.sound();
        CHECK.act("select 1 from t", -1001);
        CHECK.act("delete t", -1001);
        CHECK.act("create t(a int)", 0);
    }

    private static void objectsAreApart() {
        QueryForge first = new QueryForge();
        QueryForge second = new QueryForge();
        for (char sign : "create t(a int)".toCharArray()) {
            first.unit(sign);
        }
        CHECK.due("act() of the second object", second.act(), -1);
        CHECK.due("act() of the first object", first.act(), 0);
        CHECK.due("size(0) of the first object", first.size(0), 0);
        CHECK.due("size(0) of the second object", second.size(0), QueryForge.BAD);
    }

    private static void face() {
        CHECK.due("BAD", QueryForge.BAD, -1);
        CHECK.due("public and final", Modifier.isFinal(QueryForge.class.getModifiers()), true);
        CHECK.due("constructors", QueryForge.class.getDeclaredConstructors().length, 1);
        Object[] names = Arrays.stream(QueryForge.class.getDeclaredMethods())
            .filter(method -> !Modifier.isPrivate(method.getModifiers()))
            .map(method -> method.getReturnType() + " " + method.getName() + method.getParameterCount())
            .sorted().toArray();
        String want = "[boolean bounded0, boolean isNull2, boolean sound0, boolean unit1, int act0, "
            + "int cell3, int items0, int rows0, int size1, int value2]";
        CHECK.due("methods " + Arrays.toString(names), Arrays.toString(names).equals(want), true);
        long fields = Arrays.stream(QueryForge.class.getDeclaredFields())
            .filter(field -> !Modifier.isPrivate(field.getModifiers())).count();
        CHECK.due("fields that are not private", fields, 1);
    }
}
