import java.lang.reflect.InvocationTargetException;
import java.lang.reflect.Method;
import java.lang.reflect.Modifier;
import java.util.ArrayList;
import java.util.Comparator;
import java.util.List;
import java.util.Random;

/**
 * Whatever is called with whatever arguments, in whatever state: what is thrown is of a class in the
 * throws clause of the call, and the call's own method has thrown it, not the machine below it.
 */
public final class OnlyDueThrowsTest {
    private static final int RUNS = 600;
    private static final int MOST_CALLS = 512;
    private static final int[] ODD = {
        Integer.MIN_VALUE, -3, -2, -1, 3, 4, 6, 12, 13, 24, 31, 32, 100, 101, 1000, Integer.MAX_VALUE,
    };
    private static final List<Method> FACE = face();

    private final Stratahold x = new Stratahold();
    private final Random random;
    private final Texts texts;
    private int calls = 0;

    private OnlyDueThrowsTest(int seed) {
        random = new Random(seed);
        texts = new Texts(seed);
    }

    public static void main(String[] args) throws IllegalAccessException {
        for (int seed = 0; seed < RUNS; seed++) {
            new OnlyDueThrowsTest(seed).play();
        }
        Checks.end();
    }

    /** In the order of their names, so that the runs are always the same. */
    private static List<Method> face() {
        List<Method> methods = new ArrayList<>();
        for (Method method : Stratahold.class.getDeclaredMethods()) {
            if (Modifier.isPublic(method.getModifiers())) {
                methods.add(method);
            }
        }
        methods.sort(Comparator.comparing(Method::getName));
        return methods;
    }

    private void play() throws IllegalAccessException {
        while (calls < MOST_CALLS) {
            if (random.nextInt(100) < 55) {
                write();
                call(random.nextInt(8) == 0 ? "withdraw" : "add", random.nextInt(3) == 0 ? random.nextInt(6) : 0);
            } else {
                call(FACE.get(random.nextInt(FACE.size())), null);
            }
        }
    }

    private void write() throws IllegalAccessException {
        if (random.nextInt(10) > 0) {
            call("clearText", 0);
        }
        String text = random.nextInt(12) == 0 ? texts.damaged(texts.text()) : texts.text();
        for (char sign : text.toCharArray()) {
            call("type", sign);
        }
    }

    private void call(String name, Object argument) throws IllegalAccessException {
        for (Method method : FACE) {
            if (method.getName().equals(name)) {
                call(method, argument);
            }
        }
    }

    /** Any arguments, if none is given. */
    private void call(Method method, Object given) throws IllegalAccessException {
        Object[] arguments = new Object[method.getParameterCount()];
        for (int i = 0; i < arguments.length; i++) {
            arguments[i] = given != null ? given : anyOf(method.getParameterTypes()[i]);
        }
        calls++;
        try {
            method.invoke(x, arguments);
        } catch (InvocationTargetException e) {
            Throwable thrown = e.getCause();
            boolean due = List.of(method.getExceptionTypes()).contains(thrown.getClass());
            Checks.due(method + " throws " + thrown, due, true);
            Checks.due(thrown + " comes from", thrown.getStackTrace()[0].getMethodName(), method.getName());
        }
    }

    private Object anyOf(Class<?> type) {
        if (type == char.class) {
            return (char) (random.nextInt(4) == 0 ? random.nextInt(65536) : 'a' + random.nextInt(8));
        }
        return random.nextInt(3) == 0 ? ODD[random.nextInt(ODD.length)] : random.nextInt(10);
    }
}
