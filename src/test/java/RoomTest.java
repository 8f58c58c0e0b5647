import java.lang.reflect.Array;
import java.lang.reflect.Field;
import java.lang.reflect.Modifier;
import java.util.ArrayDeque;
import java.util.Deque;
import java.util.IdentityHashMap;
import java.util.Map;

/** What an object holds: all of it is made by the constructor, and 512 calls make it no greater. */
public final class RoomTest {
    private static final int MOST_OBJECTS = 100;
    private static final int MOST_ELEMENTS = 10000;
    private static final int CALLS = 512;

    private int objects = 0;
    private int elements = 0;

    private RoomTest() {
    }

    public static void main(String[] args) throws IllegalAccessException {
        TripleSigns x = new TripleSigns();
        RoomTest first = held(x);
        System.out.println(first.objects + " objects and arrays, " + first.elements + " fields and elements");
        Check.due("objects and arrays", first.objects <= MOST_OBJECTS, true);
        Check.due("fields and elements", first.elements <= MOST_ELEMENTS, true);
        for (int call = 0; call < CALLS; call++) {
            use(x, call);
        }
        RoomTest last = held(x);
        Check.due("objects and arrays after 512 calls", last.objects, first.objects);
        Check.due("fields and elements after 512 calls", last.elements, first.elements);
        Check.end("RoomTest");
    }

    /** A call each; the arguments go round, so that some are refused. */
    private static void use(TripleSigns x, int call) {
        int p = call / 16 % 9;
        try {
            switch (call % 16) {
                case 0 -> x.begin(8 - call / 256);
                case 1 -> x.scatter(call, 50, 50);
                case 2 -> x.read();
                case 3 -> x.drop(p, (p + 1) % 8, (p + 3) % 8);
                case 4 -> x.derive();
                case 5 -> x.exchange(p, (p + 2) % 8);
                case 6 -> x.lines();
                case 7 -> x.cocircuit(p, (p + 1) % 8);
                case 8 -> x.completions();
                case 9 -> x.type("derive;  ".charAt(p));
                case 10 -> x.run();
                case 11 -> x.written(call);
                case 12 -> x.undo();
                case 13 -> x.give(p, (p + 1) % 8, (p + 3) % 8, call % 3 - 1);
                case 14 -> x.place(p, p, -p);
                default -> x.digest();
            }
        } catch (IndexOutOfBoundsException | IllegalArgumentException | IllegalStateException e) {
            // A refused call is one of the calls, too.
            Check.due("the machine's own exception", e instanceof ArrayIndexOutOfBoundsException, false);
        }
    }

    private static RoomTest held(TripleSigns x) throws IllegalAccessException {
        RoomTest room = new RoomTest();
        Map<Object, Boolean> seen = new IdentityHashMap<>();
        Deque<Object> open = new ArrayDeque<>();
        open.add(x);
        while (!open.isEmpty()) {
            Object one = open.remove();
            if (seen.put(one, true) == null) {
                room.objects++;
                if (one.getClass().isArray()) {
                    room.addElements(one, open);
                } else {
                    room.addFields(one, open);
                }
            }
        }
        return room;
    }

    private void addElements(Object array, Deque<Object> open) {
        int length = Array.getLength(array);
        elements += length;
        if (array instanceof Object[] row) {
            for (Object one : row) {
                add("an element", one, open);
            }
        }
    }

    /** No reference may be null, since the class looks at none before it uses it. */
    private static void add(String told, Object held, Deque<Object> open) {
        Check.due(told + " is null", held == null, false);
        if (held != null) {
            open.add(held);
        }
    }

    private void addFields(Object one, Deque<Object> open) throws IllegalAccessException {
        for (Field field : one.getClass().getDeclaredFields()) {
            if (!Modifier.isStatic(field.getModifiers())) {
                elements++;
                if (!field.getType().isPrimitive()) {
                    field.setAccessible(true);
                    add("field " + field.getName(), field.get(one), open);
                }
            }
        }
    }
}
