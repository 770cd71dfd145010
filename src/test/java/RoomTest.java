import com.sun.management.ThreadMXBean;
import java.lang.management.ManagementFactory;
import java.lang.reflect.Array;
import java.lang.reflect.Field;
import java.lang.reflect.Modifier;
import java.util.ArrayDeque;
import java.util.Collections;
import java.util.Deque;
import java.util.IdentityHashMap;
import java.util.Set;

/** All calls of a run live in one room: what a new object takes of it, and that calls take nothing. */
public final class RoomTest {
    private static final Check CHECK = new Check("RoomTest");
    private static final int MOST_OBJECTS = 600_000;
    private static final int MOST_ELEMENTS = 7_300_000;
    private static final int ROUNDS = 40;
    /** What asking for the count may take by itself. */
    private static final long SOME_BYTES = 4_000;

    private static int objects;
    private static int elements;

    public static void main(String[] args) throws ReflectiveOperationException {
        newObject();
        calls();
        CHECK.end();
    }

    /** Even if all calls of a run were for new objects, these would have room. */
    private static void newObject() throws ReflectiveOperationException {
        count(new QueryForge());
        long calls = Check.MOST_CALLS + 1;
        CHECK.due(objects + " objects and arrays of a new object fit", calls * objects <= MOST_OBJECTS, true);
        CHECK.due(elements + " fields and elements of a new object fit", calls * elements <= MOST_ELEMENTS, true);
    }

    private static void calls() throws ReflectiveOperationException {
        QueryForge forge = new QueryForge();
        count(forge);
        int objectsBefore = objects;
        int elementsBefore = elements;
        char[][] statements = statements();
        ask(forge, statements);
        long before = allocated();
        for (int round = 0; round < ROUNDS; round++) {
            ask(forge, statements);
        }
        long taken = allocated() - before;
        CHECK.due("calls made objects of " + taken + " bytes", taken < SOME_BYTES, true);
        count(forge);
        CHECK.due("objects and arrays", objects, objectsBefore);
        CHECK.due("fields and elements", elements, elementsBefore);
    }

    private static char[][] statements() {
        String[] texts = {
            "create t(a int,b text,c int,d int)", "create t(a int)", "create u(x int)",
            "insert t(1,'ab',null,-4)", "insert t(2,null,3,4)", "insert u(5)", "insert u(6)", "insert u(5,6)",
            "select a,b,c,d from t order 1 desc", "select a+x,x,b,c/d from t,u where not [a=x or c is null] order 2",
            "select b,sum(a),count(c),max(d) from t,u group b order 4", "select min(a),sum(a*x) from t,u",
            "select 1/(a-a) from t", "update t set a=a*2-3 where c is null", "update t set a=2147483647+a",
            "delete t where a>9", "delete nobody", "select a form t", "x", "",
        };
        char[][] statements = new char[texts.length][];
        for (int i = 0; i < texts.length; i++) {
            statements[i] = texts[i].toCharArray();
        }
        return statements;
    }

    private static void ask(QueryForge forge, char[][] statements) {
        for (char[] statement : statements) {
            for (char sign : statement) {
                forge.unit(sign);
            }
            forge.act();
            for (int row = -1; row <= forge.rows(); row++) {
                forge.value(row, forge.items() - 1);
                forge.isNull(row, 0);
                forge.cell(0, row, 0);
            }
            forge.size(0);
            forge.bounded();
            forge.sound();
        }
    }

    private static long allocated() {
        ThreadMXBean threads = (ThreadMXBean) ManagementFactory.getThreadMXBean();
        return threads.getThreadAllocatedBytes(Thread.currentThread().getId());
    }

    /** Counts all that can be reached from an object. */
    private static void count(Object from) throws ReflectiveOperationException {
        objects = 0;
        elements = 0;
        Set<Object> seen = Collections.newSetFromMap(new IdentityHashMap<>());
        Deque<Object> open = new ArrayDeque<>();
        open.add(from);
        while (!open.isEmpty()) {
            Object next = open.remove();
            if (seen.add(next)) {
                objects++;
                open.addAll(next.getClass().isArray() ? partsOfArray(next) : partsOfObject(next));
            }
        }
    }

    private static Deque<Object> partsOfArray(Object array) {
        Deque<Object> parts = new ArrayDeque<>();
        elements += Array.getLength(array);
        for (int i = 0; i < Array.getLength(array) && !array.getClass().getComponentType().isPrimitive(); i++) {
            parts.add(Array.get(array, i));
        }
        return parts;
    }

    private static Deque<Object> partsOfObject(Object object) throws ReflectiveOperationException {
        Deque<Object> parts = new ArrayDeque<>();
        for (Field field : object.getClass().getDeclaredFields()) {
            if (!Modifier.isStatic(field.getModifiers())) {
                elements++;
                field.setAccessible(true);
                if (!field.getType().isPrimitive()) {
                    parts.add(field.get(object));
                }
            }
        }
        return parts;
    }
}
