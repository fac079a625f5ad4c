import java.lang.reflect.InvocationTargetException;
import java.lang.reflect.Method;
import java.util.Arrays;
import java.util.HashMap;
import java.util.Map;

/** Calls told in words, "blast 1 5", made on the class or on the model alike; "text w0,1,0;" writes each letter. */
final class Script {
    private static final Map<String, Method> METHODS = new HashMap<>();

    private Script() { }

    /** The answer of the call (of "text": of its last letter). */
    static int call(Object on, String words) {
        if (words.startsWith("text ")) return writeAll(on, words.substring(5));
        String[] parts = words.split(" ");
        Object[] numbers = new Object[parts.length - 1];
        for (int i = 0; i < numbers.length; i++) numbers[i] = Integer.valueOf(parts[i + 1]);
        return invoke(on, parts[0], numbers);
    }

    static <T> T play(T on, String... calls) {
        for (String words : calls) call(on, words);
        return on;
    }

    /** A new object on which the calls have been made. */
    static WallTrumpets after(String... calls) {
        return play(new WallTrumpets(), calls);
    }

    /** The calls with others behind them. */
    static String[] and(String[] calls, String... more) {
        String[] all = Arrays.copyOf(calls, calls.length + more.length);
        System.arraycopy(more, 0, all, calls.length, more.length);
        return all;
    }

    /** A call as often as told. */
    static String[] times(int times, String words) {
        String[] all = new String[times];
        Arrays.fill(all, words);
        return all;
    }

    private static int writeAll(Object on, String text) {
        int answer = 0;
        for (int i = 0; i < text.length(); i++) answer = invoke(on, "write", (int) text.charAt(i));
        return answer;
    }

    private static int invoke(Object on, String name, Object... numbers) {
        try {
            return (Integer) method(on.getClass(), name, numbers.length).invoke(on, numbers);
        } catch (InvocationTargetException e) {
            // A call must never throw, whatever its numbers.
            Due.isTrue(name + " " + Arrays.toString(numbers) + " threw " + e.getCause(), false);
            return Integer.MIN_VALUE;
        } catch (ReflectiveOperationException e) {
            throw new IllegalArgumentException("no such call: " + name, e);
        }
    }

    private static Method method(Class<?> of, String name, int numbers) throws NoSuchMethodException {
        String key = of.getName() + "." + name + "/" + numbers;
        Method found = METHODS.get(key);
        if (found == null) {
            Class<?>[] types = new Class<?>[numbers];
            Arrays.fill(types, int.class);
            found = of.getDeclaredMethod(name, types);
            METHODS.put(key, found);
        }
        return found;
    }
}
