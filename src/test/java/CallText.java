import java.lang.reflect.InvocationTargetException;
import java.lang.reflect.Method;

/** A call written as a text, such as "hit(0, 2, MIN, 3)"; MIN and MAX are those of the argument's type. */
final class CallText {
    private final Method method;
    private final Object[] arguments;

    CallText(String text) {
        int open = text.indexOf('(');
        String inside = text.substring(open + 1, text.length() - 1).trim();
        String[] words = inside.isEmpty() ? new String[0] : inside.split(",");
        method = named(text.substring(0, open), words.length);
        arguments = new Object[words.length];
        for (int i = 0; i < words.length; i++) {
            arguments[i] = value(words[i].trim(), method.getParameterTypes()[i] == long.class);
        }
    }

    private static Method named(String name, int arguments) {
        for (Method m : GroupCursors.class.getMethods()) {
            if (m.getName().equals(name) && m.getParameterCount() == arguments) {
                return m;
            }
        }
        throw new AssertionError("the face has no " + name + " with " + arguments + " arguments");
    }

    /** Not one ?: over both types, which would make every value a Long. */
    private static Object value(String word, boolean isLong) {
        if (isLong) {
            return word.equals("MIN") ? Long.MIN_VALUE : word.equals("MAX") ? Long.MAX_VALUE : Long.parseLong(word);
        }
        return word.equals("MIN") ? Integer.MIN_VALUE : word.equals("MAX") ? Integer.MAX_VALUE : Integer.parseInt(word);
    }

    /** The answer as a text: a number, true, false, or throws. and the exception's name. */
    String on(GroupCursors x) {
        try {
            return String.valueOf(method.invoke(x, arguments));
        } catch (InvocationTargetException e) {
            return "throws." + e.getCause().getClass().getSimpleName();
        } catch (IllegalAccessException e) {
            throw new AssertionError(e);
        }
    }
}
