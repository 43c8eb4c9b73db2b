import java.lang.reflect.Array;
import java.lang.reflect.Field;
import java.lang.reflect.InvocationTargetException;
import java.lang.reflect.Method;
import java.lang.reflect.Modifier;
import java.util.ArrayDeque;
import java.util.ArrayList;
import java.util.Collections;
import java.util.Comparator;
import java.util.IdentityHashMap;
import java.util.List;
import java.util.Random;
import java.util.Set;

/** Any numbers in any state: no call throws, the same calls answer the same, and an object keeps to its room. */
public final class WildNumbersTest {
    private static final int RUNS = 3000;
    private static final int MOST_CALLS = 512;
    /** What one object may take at most: far below the room of a run, far above what 150 versions need. */
    private static final int MOST_OBJECTS = 2500;
    private static final int MOST_ELEMENTS = 60000;
    private static final long[] NUMBERS = {Long.MIN_VALUE, Long.MAX_VALUE, Integer.MIN_VALUE, Integer.MIN_VALUE + 1L,
        Integer.MAX_VALUE, Integer.MAX_VALUE - 1L, -65536, -32769, -256, -129, -128, -100, -5, -4, -3, -2, -1, 0, 1, 2,
        3, 4, 5, 6, 7, 8, 9, 10, 11, 15, 16, 17, 79, 80, 81, 98, 99, 100, 101, 127, 128, 148, 149, 150, 151, 160, 255,
        256, 32767, 32768, 65536, 1L << 32, (1L << 32) + 1};
    private static final Due DUE = new Due();

    private static final Set<String> CHANGES =
        Set.of("row", "gone", "cell", "empty", "column", "drop", "retype", "move", "merge");

    private final Random chance;
    private final List<Method> face = new ArrayList<>();
    private final TableHistories one = new TableHistories();
    private final TableHistories other = new TableHistories();
    private int last = 0;

    public static void main(String[] args) throws IllegalAccessException {
        int fullRuns = 0;
        for (int seed = 0; seed < RUNS; seed++) {
            WildNumbersTest test = new WildNumbersTest(seed);
            int filled = seed % 2 == 0 ? 0 : test.fill(120);
            test.run(MOST_CALLS - 1 - filled, seed % 3 == 0 ? 2 : 10);
            fullRuns += test.last == 149 ? 1 : 0;
        }
        System.out.println("runs that came to 150 versions: " + fullRuns);
        DUE.isTrue("some runs come to 150 versions", fullRuns > 0);
        roomOfFullObject();
        DUE.end();
    }

    private WildNumbersTest(int seed) {
        chance = new Random(seed);
        for (Method method : TableHistories.class.getDeclaredMethods()) {
            if (Modifier.isPublic(method.getModifiers())) {
                face.add(method);
            }
        }
        // the machine tells methods in no order that it keeps to, and the runs are to be the same each time
        face.sort(Comparator.comparing(Method::getName));
    }

    /** So many versions on a branch that no tame call is on, so that the object gets full by those that follow. */
    private int fill(int versions) {
        for (int call = 0; call < versions; call++) {
            last++;
            DUE.is("fill", call % 2 == 0 ? one.row(4, 0, 99) : one.gone(4, 0, 99), last);
            DUE.is("fill", call % 2 == 0 ? other.row(4, 0, 99) : other.gone(4, 0, 99), last);
        }
        return versions;
    }

    /** Of so many calls one is wild; the others are tame, so that there are versions, rows and columns. */
    private void run(int calls, int wildOneOf) {
        for (int call = 0; call < calls; call++) {
            boolean tame = chance.nextInt(wildOneOf) != 0;
            Method method = face.get(chance.nextInt(face.size()));
            Object[] numbers = new Object[method.getParameterCount()];
            for (int i = 0; i < numbers.length; i++) {
                long number = tame ? chance.nextInt(i == 0 ? 3 : 6) : NUMBERS[chance.nextInt(NUMBERS.length)];
                boolean isLong = method.getParameterTypes()[i] == long.class;
                numbers[i] = isLong ? (Object) number : (Object) (int) number;
            }
            ask(method, numbers);
        }
        DUE.is("versions", one.count(0), last + 1);
    }

    private void ask(Method method, Object[] numbers) {
        String call = method.getName() + List.of(numbers);
        long answer = answer(one, method, numbers, call);
        DUE.is(call + " on another object", answer(other, method, numbers, call), answer);
        boolean isNumber = method.getName().equals("value");
        DUE.isTrue(call + " answers what is told: " + answer, isNumber || answer >= TableHistories.NONE);
        if (answer >= 0 && CHANGES.contains(method.getName())) {
            last++;
            DUE.is(call + " makes the next version", answer, last);
        }
    }

    private static long answer(TableHistories x, Method method, Object[] numbers, String call) {
        try {
            return ((Number) method.invoke(x, numbers)).longValue();
        } catch (IllegalAccessException | InvocationTargetException thrown) {
            DUE.isTrue(call + " threw " + thrown.getCause(), false);
            return 0;
        }
    }

    /** 150 versions, most with 5 columns and 16 rows, and the clashes of a merge. */
    private static void roomOfFullObject() throws IllegalAccessException {
        TableHistories x = new TableHistories();
        for (int column = 0; column < 5; column++) {
            DUE.is("column", x.column(0, 0, 3), 1 + column);
        }
        for (int key = 0; key < 16; key++) {
            DUE.is("row", x.row(0, 0, key), 6 + key);
        }
        DUE.is("branch", x.branch(1, 21), 0);
        for (int i = 0; i < 126; i++) {
            DUE.is("cell", x.cell(i % 2, 0, i / 2 % 16, i / 2 % 5, i), 22 + i);
        }
        DUE.is("merge", x.merge(0, 1, 0), TableHistories.NO);
        DUE.isTrue("clashes", x.count(3) > 0);
        DUE.is("move", x.move(0, 0, 0, 99), 148);
        DUE.is("empty", x.empty(0, 0, 99, 0), 149);
        DUE.is("empty", x.empty(0, 0, 99, 0), TableHistories.FULL);
        lookAtRoom(x);
    }

    private static void lookAtRoom(TableHistories x) throws IllegalAccessException {
        Set<Object> seen = Collections.newSetFromMap(new IdentityHashMap<>());
        ArrayDeque<Object> open = new ArrayDeque<>(List.of(x));
        long elements = 0;
        while (!open.isEmpty()) {
            Object next = open.pop();
            if (seen.add(next)) {
                elements += next.getClass().isArray() ? lookInArray(next, open) : lookInObject(next, open);
            }
        }
        System.out.println("a full object: " + seen.size() + " objects, " + elements + " fields and elements");
        DUE.isTrue("objects and arrays: " + seen.size(), seen.size() <= MOST_OBJECTS);
        DUE.isTrue("fields and elements: " + elements, elements <= MOST_ELEMENTS);
    }

    private static long lookInArray(Object array, ArrayDeque<Object> open) {
        int length = Array.getLength(array);
        if (!array.getClass().getComponentType().isPrimitive()) {
            for (int i = 0; i < length; i++) {
                push(Array.get(array, i), open);
            }
        }
        return length;
    }

    private static long lookInObject(Object object, ArrayDeque<Object> open) throws IllegalAccessException {
        int fields = 0;
        for (Field field : object.getClass().getDeclaredFields()) {
            if (!Modifier.isStatic(field.getModifiers())) {
                fields++;
                field.setAccessible(true);
                if (!field.getType().isPrimitive()) {
                    push(field.get(object), open);
                }
            }
        }
        return fields;
    }

    private static void push(Object found, ArrayDeque<Object> open) {
        if (found != null) {
            open.push(found);
        }
    }
}
