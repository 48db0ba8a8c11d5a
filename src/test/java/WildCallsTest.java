import java.lang.reflect.InvocationTargetException;
import java.lang.reflect.Method;
import java.util.ArrayList;
import java.util.Arrays;
import java.util.List;
import java.util.NoSuchElementException;
import java.util.Random;

/** Any arguments in any state: nothing is thrown but what the document names, and what is thrown changes nothing. */
public final class WildCallsTest {
    private static final List<String> MAY_THROW = Arrays.asList("hand", "odds", "next");
    private static final int[] EDGES = {Integer.MIN_VALUE, Integer.MIN_VALUE + 1, -1001, -1000, -2, -1, 0, 1, 2, 3, 4, 5,
        6, 12, 13, 29, 30, 31, 99, 100, 300, 400, 401, 900, 920, 940, 941, Integer.MAX_VALUE - 1, Integer.MAX_VALUE};

    public static void main(String[] args) throws Exception {
        List<Method> face = new ArrayList<>();
        for (Method m : SevenTable.class.getDeclaredMethods()) {
            if (java.lang.reflect.Modifier.isPublic(m.getModifiers())) {
                face.add(m);
            }
        }
        face.sort((a, b) -> a.getName().compareTo(b.getName()));
        int wrong = face.size() == 37 ? 0 : 1;
        if (wrong > 0) {
            System.out.println("the face has " + face.size() + " methods");
        }
        int calls = 0;
        for (int seed = 0; seed < 400 && wrong == 0; seed++) {
            Random r = new Random(seed);
            SevenTable x = new SevenTable();
            SevenTable y = new SevenTable();
            for (int i = 0; i < 400 && wrong == 0; i++) {
                if (r.nextInt(40) == 0) {
                    String text = r.nextInt(3) == 0 ? RandomRunsTest.spoil(RandomRunsTest.tableText(r), r)
                            : RandomRunsTest.tableText(r);
                    text = text.length() > 900 ? text.substring(0, 900) : text;
                    PromisesTest.write(x, text);
                    PromisesTest.write(y, text);
                    x.table();
                    y.table();
                }
                wrong += oneCall(x, y, face.get(r.nextInt(face.size())), r);
                calls++;
            }
        }
        System.out.println("wild calls: " + calls);
        System.exit(wrong > 0 ? 1 : 0);
    }

    /** Does a call on x; on y too, but for a call that threw: so they are alike only if that changed nothing. */
    private static int oneCall(SevenTable x, SevenTable y, Method m, Random r) throws Exception {
        Object[] numbers = new Object[m.getParameterCount()];
        for (int i = 0; i < numbers.length; i++) {
            int kind = r.nextInt(10);
            numbers[i] = kind == 0 ? r.nextInt() : kind < 3 ? EDGES[r.nextInt(EDGES.length)] : r.nextInt(5) - 1 + kind % 2;
        }
        try {
            Object got = m.invoke(x, numbers);
            Object same = m.invoke(y, numbers);
            if (!got.equals(same)) {
                System.out.println(m.getName() + Arrays.toString(numbers) + ": " + got + " and " + same);
                return 1;
            }
        } catch (InvocationTargetException e) {
            if (!(e.getCause() instanceof NoSuchElementException) || !MAY_THROW.contains(m.getName())) {
                System.out.println(m.getName() + Arrays.toString(numbers) + " threw " + e.getCause());
                e.getCause().printStackTrace(System.out);
                return 1;
            }
        }
        return 0;
    }
}
