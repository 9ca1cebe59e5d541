import java.lang.reflect.InvocationTargetException;
import java.lang.reflect.Method;
import java.lang.reflect.Modifier;
import java.nio.charset.StandardCharsets;
import java.util.HashMap;
import java.util.Map;
import java.util.regex.Matcher;
import java.util.regex.Pattern;

/**
 * A new object and calls on it, written as texts ("puts(0, 1) stands(0)"; MIN and MAX are Java's least and greatest int), each
 * with the answer that is due. What is wrong is told with the Run's label, which names the promise and its sentence.
 */
final class Run {
    private static final int PROMISED_CALLS = 512;
    private static final Pattern CALL = Pattern.compile("(\\w+)\\(([^)]*)\\)");
    private static final Map<String, Method> FACE = new HashMap<>();

    static {
        for (Method m : RookHusting.class.getDeclaredMethods()) {
            if (Modifier.isPublic(m.getModifiers())) {
                FACE.put(m.getName(), m);
            }
        }
    }

    private final String label;
    private final RookHusting object = new RookHusting();
    private int calls;

    Run(String label) {
        this.label = label;
    }

    /** A Run whose object has a HUNDRED of as many LINES as its text has signs. */
    static Run told(String label, String text) {
        return new Run(label).feed(text).due("hundred()", text.chars().filter(c -> c == ';').count());
    }

    /** Bytes behind the TAPE (the last feed filled up and cut off again). */
    Run feed(String text) {
        byte[] bytes = text.getBytes(StandardCharsets.ISO_8859_1);
        long before = ask("count(9)");
        for (int from = 0; from < bytes.length; from += 20) {
            StringBuilder call = new StringBuilder("feed(").append(Check.four(bytes, from));
            for (int i = 4; i < 20; i += 4) {
                call.append(", ").append(Check.four(bytes, from + i));
            }
            ask(call.append(")").toString());
        }
        return due("end(" + (before + bytes.length) + ")", before + bytes.length);
    }

    /** Calls without a look at their answers. */
    Run after(String written) {
        Matcher call = CALL.matcher(written);
        while (call.find()) {
            ask(call.group());
        }
        return this;
    }

    /** As many calls as answers. */
    Run due(String written, long... want) {
        Matcher call = CALL.matcher(written);
        int i = 0;
        while (call.find()) {
            if (i >= want.length) {
                throw new IllegalArgumentException(label + ": no answer to " + call.group());
            }
            long got = ask(call.group());
            Check.due(label + ": " + call.group(), got, want[i]);
            i++;
        }
        if (i != want.length) {
            throw new IllegalArgumentException(label + ": " + i + " calls, " + want.length + " answers");
        }
        return this;
    }

    /** All these calls with one answer. */
    Run each(long want, String written) {
        Matcher call = CALL.matcher(written);
        while (call.find()) {
            due(call.group(), want);
        }
        return this;
    }

    long ask(String written) {
        Matcher call = CALL.matcher(written);
        if (!call.matches() || !FACE.containsKey(call.group(1))) {
            throw new IllegalArgumentException(label + ": no call " + written);
        }
        calls++;
        if (calls == PROMISED_CALLS + 1) {
            throw new IllegalArgumentException(label + ": more calls than are promised");
        }
        Method method = FACE.get(call.group(1));
        String[] numbers = call.group(2).isBlank() ? new String[0] : call.group(2).split(",");
        if (numbers.length != method.getParameterCount()) {
            throw new IllegalArgumentException(label + ": " + written);
        }
        Object[] args = new Object[numbers.length];
        for (int i = 0; i < args.length; i++) {
            long number = number(numbers[i].trim());
            if (method.getParameterTypes()[i] == long.class) {
                args[i] = number;
            } else {
                args[i] = Math.toIntExact(number);
            }
        }
        return answer(method, args, written);
    }

    private static long number(String written) {
        switch (written) {
            case "MIN":
                return Integer.MIN_VALUE;
            case "MAX":
                return Integer.MAX_VALUE;
            default:
                return Long.parseLong(written);
        }
    }

    private long answer(Method method, Object[] args, String written) {
        try {
            return ((Number) method.invoke(object, args)).longValue();
        } catch (InvocationTargetException e) {
            throw new IllegalStateException(label + ": " + written + " threw", e.getCause());
        } catch (IllegalAccessException e) {
            throw new IllegalStateException(e);
        }
    }
}
