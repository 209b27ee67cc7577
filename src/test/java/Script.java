import java.lang.reflect.InvocationTargetException;
import java.lang.reflect.Method;
import java.util.ArrayList;
import java.util.HashMap;
import java.util.List;
import java.util.Map;

/** Calls told as texts: "lay({0|5}, 99)" is lay(0, 99) and lay(5, 99); LEAST and MOST are the ends of int. */
final class Script {
    private static final Map<String, Method> METHODS = new HashMap<>();

    private Script() {
    }

    /** Every call that a pattern stands for, the last brace running first. */
    static List<String> each(String... patterns) {
        List<String> calls = new ArrayList<>();
        for (String pattern : patterns) {
            int open = pattern.indexOf('{');
            if (open < 0) {
                calls.add(pattern);
                continue;
            }
            int close = pattern.indexOf('}', open);
            for (String one : pattern.substring(open + 1, close).split("\\|")) {
                calls.addAll(each(pattern.substring(0, open) + one + pattern.substring(close + 1)));
            }
        }
        return calls;
    }

    static long call(Object on, String call) {
        int open = call.indexOf('(');
        String told = call.substring(open + 1, call.length() - 1).trim();
        String[] numbers = told.isEmpty() ? new String[0] : told.split(",");
        int[] values = new int[numbers.length];
        for (int i = 0; i < numbers.length; i++) {
            values[i] = number(numbers[i].trim());
        }
        return call(on, call.substring(0, open), values);
    }

    private static int number(String told) {
        return told.equals("LEAST") ? Integer.MIN_VALUE : told.equals("MOST") ? Integer.MAX_VALUE : Integer.parseInt(told);
    }

    static long call(Object on, String name, int... values) {
        Object[] boxed = new Object[values.length];
        for (int i = 0; i < values.length; i++) {
            boxed[i] = values[i];
        }
        try {
            return ((Number) method(on, name).invoke(on, boxed)).longValue();
        } catch (InvocationTargetException | IllegalAccessException e) {
            throw new IllegalStateException(name + java.util.Arrays.toString(values) + " threw " + e.getCause(), e);
        }
    }

    private static Method method(Object on, String name) {
        return METHODS.computeIfAbsent(on.getClass().getName() + "." + name, key -> {
            for (Method m : on.getClass().getDeclaredMethods()) {
                if (m.getName().equals(name) && !m.isSynthetic()) {
                    return m;
                }
            }
            throw new IllegalStateException("no method " + key);
        });
    }

    static void all(Object on, List<String> calls) {
        for (String call : calls) {
            call(on, call);
        }
    }

    /** The calls that feed a text, five bytes each. */
    static List<String> feeding(String text) {
        List<String> calls = new ArrayList<>();
        for (int at = 0; at < text.length(); at += 5) {
            int n = Math.min(5, text.length() - at);
            StringBuilder call = new StringBuilder("feed(" + n);
            for (int i = 0; i < 5; i++) {
                call.append(", ").append(i < n ? (int) text.charAt(at + i) : 0);
            }
            calls.add(call.append(')').toString());
        }
        return calls;
    }

    static List<String> reading(String text) {
        List<String> calls = feeding(text);
        calls.add("text()");
        return calls;
    }
}
