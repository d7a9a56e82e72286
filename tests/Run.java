import java.lang.reflect.InvocationTargetException;
import java.lang.reflect.Method;
import java.util.Arrays;
import java.util.HashMap;
import java.util.Map;

/** A run of calls on a new object, told as texts, for one sentence of the document; an object is for 512 calls, so that a longer run is wrong. */
final class Run {
    private static final int CALLS = 512;
    private static final Map<String, Method> METHODS = new HashMap<>();
    private static int runs;
    private static int asked;
    private static int wrong;

    private final String sentence;
    private final BoxLeaves x = new BoxLeaves();
    private int calls;

    static {
        for (Method m : BoxLeaves.class.getDeclaredMethods()) METHODS.put(m.getName(), m);
    }

    Run(String sentence) {
        this.sentence = sentence;
        runs++;
    }

    /** Each of these calls answers what is due. */
    Run is(int due, String... told) {
        for (String call : told) due(call, answer(call), due);
        return this;
    }

    /** These calls make ready: none is refused. */
    Run so(String... told) {
        for (String call : told) {
            int got = answer(call);
            if (got < 0) fail(call + " answered " + got + ", it should not be refused");
        }
        return this;
    }

    Run times(int n, String call) {
        for (int i = 0; i < n; i++) so(call);
        return this;
    }

    /** The call answers first, and one more each time, up to last. */
    Run numbers(int first, int last, String call) {
        for (int due = first; due <= last; due++) is(due, call);
        return this;
    }

    Run feed(String text) {
        for (int at = 0; at < text.length(); at += 8) {
            int n = Math.min(8, text.length() - at);
            long eight = 0;
            for (int i = 0; i < n; i++) eight |= (text.charAt(at + i) & 255L) << 8 * i;
            so("feed(" + eight + ", " + n + ")");
        }
        return this;
    }

    Run read(int due, String text) {
        feed(text);
        due("read() of \"" + text + "\"", answer("read()"), due);
        return this;
    }

    /** What the call answers. */
    int answer(String call) {
        asked++;
        calls++;
        if (calls == CALLS + 1) fail("more than 512 calls");
        String name = call.substring(0, call.indexOf('('));
        String inner = call.substring(call.indexOf('(') + 1, call.lastIndexOf(')')).strip();
        Method m = METHODS.get(name);
        Object[] values = numbersOf(inner.isEmpty() ? new String[0] : inner.split(","), m.getParameterTypes());
        try {
            return (Integer) m.invoke(x, values);
        } catch (InvocationTargetException | IllegalAccessException e) {
            fail(call + " threw " + e.getCause());
            return Integer.MIN_VALUE;
        }
    }

    private static Object[] numbersOf(String[] told, Class<?>[] types) {
        if (told.length != types.length) throw new IllegalArgumentException(Arrays.toString(told));
        Object[] values = new Object[types.length];
        for (int i = 0; i < types.length; i++) {
            String v = told[i].strip();
            if (types[i] == boolean.class) values[i] = v.equals("true");
            else if (types[i] == long.class) values[i] = Long.parseLong(v);
            else values[i] = v.equals("max") ? Integer.MAX_VALUE : v.equals("min") ? Integer.MIN_VALUE : Integer.parseInt(v);
        }
        return values;
    }

    private void due(String call, int got, int due) {
        if (got != due) fail(call + " answered " + got + ", due is " + due);
    }

    void fail(String what) {
        wrong++;
        System.out.println("\"" + sentence + "\": " + what);
    }

    static void end(String about) {
        System.out.println(about + ": " + runs + " runs of " + asked + " calls, " + wrong + " wrong");
        if (wrong != 0) System.exit(1);
    }
}
