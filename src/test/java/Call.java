import java.lang.reflect.InvocationTargetException;
import java.lang.reflect.Method;
import java.util.Arrays;

/** One call of the face, written like "write(0, 3, 5)", that can be made on any object with that face. */
final class Call {
    private final String text;
    private final String name;
    private final String[] arguments;

    Call(String text) {
        this.text = text;
        int bracket = text.indexOf('(');
        name = text.substring(0, bracket);
        String inside = text.substring(bracket + 1, text.length() - 1).trim();
        arguments = inside.isEmpty() ? new String[0] : inside.split("\\s*,\\s*");
    }

    String name() {
        return name;
    }

    /** The answer as text; "throws.X" if the call throws an X. */
    String answerOf(Object desk) {
        try {
            Method method = methodOf(desk.getClass());
            return String.valueOf(method.invoke(desk, values(method.getParameterTypes())));
        } catch (InvocationTargetException e) {
            return "throws." + e.getCause().getClass().getSimpleName();
        } catch (IllegalAccessException e) {
            throw new AssertionError(e);
        }
    }

    private Method methodOf(Class<?> face) {
        for (Method method : face.getDeclaredMethods()) {
            if (method.getName().equals(name) && method.getParameterCount() == arguments.length) {
                return method;
            }
        }
        throw new AssertionError("no such method: " + text);
    }

    private Object[] values(Class<?>[] types) {
        Object[] values = new Object[types.length];
        Arrays.setAll(values, i -> value(types[i], arguments[i]));
        return values;
    }

    private static Object value(Class<?> type, String argument) {
        if (type == boolean.class) {
            return Boolean.valueOf(argument);
        }
        if (type == long.class) {
            return Long.valueOf(argument);
        }
        return Integer.valueOf(argument);
    }

    @Override
    public String toString() {
        return text;
    }
}
