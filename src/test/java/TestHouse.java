import java.lang.reflect.InvocationTargetException;
import java.lang.reflect.Method;
import java.util.Arrays;
import java.util.HashMap;
import java.util.Map;

/** A house whose calls are written as in the document, "step(0, 0, 2, 4)", and counted. */
final class TestHouse {
    private static final int MOST_CALLS = 512;
    private static final Map<String, Method> METHODS = new HashMap<>();

    private final SisterSteps x = new SisterSteps();
    private int calls = 0;

    static {
        for (Method method : SisterSteps.class.getMethods()) {
            METHODS.put(method.getName(), method);
        }
    }

    /** The answer, or throws. and the name of the exception. */
    String call(String call) {
        int open = call.indexOf('(');
        Method method = METHODS.get(call.substring(0, open));
        String told = call.substring(open + 1, call.length() - 1);
        String[] numbers = told.isEmpty() ? new String[0] : told.split(", ");
        Class<?>[] types = method.getParameterTypes();
        Object[] arguments = new Object[types.length];
        if (numbers.length != types.length) {
            throw new IllegalStateException("the test tells a wrong number of arguments: " + call);
        }
        for (int place = 0; place < types.length; place++) {
            arguments[place] = argument(types[place], numbers[place]);
        }
        return invoke(method, arguments);
    }

    private static Object argument(Class<?> type, String told) {
        if (type == boolean.class) {
            return told.equals("true");
        }
        if (type == char.class) {
            return (char) Integer.parseInt(told);
        }
        return Integer.parseInt(told);
    }

    private String invoke(Method method, Object... arguments) {
        calls++;
        if (calls > MOST_CALLS) {
            throw new IllegalStateException("the test makes more calls than the document tells of");
        }
        try {
            return String.valueOf(method.invoke(x, arguments));
        } catch (InvocationTargetException e) {
            Class<?> thrown = e.getCause().getClass();
            boolean isTold = Arrays.asList(method.getExceptionTypes()).contains(thrown);
            TestKit.due(method.getName() + " throws " + thrown.getName() + ", which the document names", isTold, true);
            return "throws." + thrown.getSimpleName();
        } catch (IllegalAccessException e) {
            throw new IllegalStateException("the call is not public", e);
        }
    }

    void type(String text) {
        for (char character : text.toCharArray()) {
            invoke(METHODS.get("append"), character);
        }
    }

    String tell(String text) {
        type(text);
        return call("commands()");
    }

    private int number(String call) {
        return Integer.parseInt(call(call));
    }

    /** All that belongs to what can be undone, and how much can be. */
    String state() {
        StringBuilder all = new StringBuilder();
        for (int what = 0; what <= 9; what++) {
            all.append(call("account(" + what + ")")).append(' ');
        }
        int bars = number("account(0)");
        for (int bar = 0; bar < bars; bar++) {
            all.append("| ").append(call("key(" + bar + ")")).append(' ');
            for (int sister = 0; sister < 4; sister++) {
                appendRow(all, sister, bar);
            }
        }
        return all.toString();
    }

    private void appendRow(StringBuilder all, int sister, int bar) {
        int left = number("lacking(" + sister + ", " + bar + ")");
        all.append('/').append(left);
        for (int floor = 0; floor < 5; floor++) {
            all.append(' ').append(call("beatsOn(" + sister + ", " + bar + ", " + floor + ")"));
        }
        int beats = 0;
        for (int place = 0; beats < 8 - left; place++) {
            String sign = "signOf(" + sister + ", " + bar + ", " + place + ", ";
            int length = number(sign + "1)");
            all.append(" <").append(call(sign + "0)")).append(length).append('>');
            beats += length;
        }
    }

    String line() {
        StringBuilder line = new StringBuilder();
        String next = call("character(0)");
        while (next.length() == 1) {
            line.append(next);
            next = call("character(" + line.length() + ")");
        }
        return line + " " + next;
    }

    String texts() {
        return call("account(10)") + " " + call("faultPosition()");
    }

    String reason() {
        return call("reason(0)") + " " + call("reason(1)") + " " + call("reason(2)");
    }
}
