import java.lang.reflect.InvocationTargetException;
import java.lang.reflect.Method;
import java.nio.charset.StandardCharsets;
import java.util.ArrayList;
import java.util.HashMap;
import java.util.List;
import java.util.Map;
import java.util.NoSuchElementException;

/** An object of the class and one of the model, to which all calls are told alike, from the first to the 512th. */
final class Pair {
    static final int MOST_CALLS = 512;
    static final long MISSING = Long.MIN_VALUE;
    static final long ILLEGAL = Long.MIN_VALUE + 1;
    private static final Map<String, Method> CLASS = methods(KettleChoir.class);
    private static final Map<String, Method> MODEL = methods(Model.class);

    final Model model = new Model();
    private final KettleChoir choir = new KettleChoir();
    private final Check check;
    private final String run;
    private final List<String> told = new ArrayList<>();

    Pair(Check check, String run) {
        this.check = check;
        this.run = run;
    }

    private static Map<String, Method> methods(Class<?> c) {
        Map<String, Method> methods = new HashMap<>();
        for (Method m : c.getDeclaredMethods()) {
            methods.put(m.getName() + (m.getName().equals("feed") ? "" : m.getParameterCount()), m);
        }
        return methods;
    }

    int left() {
        return MOST_CALLS - told.size();
    }

    /** The class's answer, which is the model's, too. */
    long ask(String name, int... numbers) {
        if (left() == 0) {
            throw new IllegalStateException("the test makes more than 512 calls");
        }
        told.add(name + List.of(boxed(numbers)));
        String key = name + (name.equals("feed") ? "" : numbers.length);
        long got = answer(CLASS.get(key), choir, boxed(numbers));
        long want = answer(MODEL.get(key), model, name.equals("feed") ? new Object[] {numbers} : boxed(numbers));
        check.same(run + ", call " + told.size() + ", " + told.get(told.size() - 1), got, want);
        return got;
    }

    /** As ask, with an answer that was reckoned by hand. */
    void due(long want, String name, int... numbers) {
        long got = ask(name, numbers);
        check.same(run + ", call " + told.size() + ", " + told.get(told.size() - 1) + " by hand", got, want);
    }

    private static Object[] boxed(int[] numbers) {
        Object[] boxed = new Object[numbers.length];
        for (int i = 0; i < numbers.length; i++) {
            boxed[i] = numbers[i];
        }
        return boxed;
    }

    private static long answer(Method method, Object asked, Object[] numbers) {
        try {
            Object answer = method.invoke(asked, numbers);
            return answer instanceof Boolean ? ((Boolean) answer ? 1 : 0) : answer == null ? 0 : (Integer) answer;
        } catch (IllegalAccessException e) {
            throw new IllegalStateException(e);
        } catch (InvocationTargetException e) {
            Class<?> thrown = e.getCause().getClass();
            if (thrown != NoSuchElementException.class && thrown != IllegalArgumentException.class) {
                throw new IllegalStateException("a call threw " + e.getCause(), e);
            }
            return thrown == NoSuchElementException.class ? MISSING : ILLEGAL;
        }
    }

    /** How many calls it takes to tell a text. */
    static int callsOf(String text) {
        return (text.length() + 19) / 20 + 1;
    }

    /** What kitchen() says to a text. */
    long text(String text) {
        byte[] bytes = text.getBytes(StandardCharsets.ISO_8859_1);
        for (int i = 0; i < bytes.length; i += 20) {
            int[] five = new int[5];
            for (int j = 0; j < 20; j++) {
                five[j / 4] = five[j / 4] << 8 | (i + j < bytes.length ? bytes[i + j] & 255 : ' ');
            }
            ask("feed", five);
        }
        return ask("kitchen", bytes.length);
    }
}
