import java.lang.reflect.InvocationTargetException;
import java.lang.reflect.Method;
import java.util.HashMap;
import java.util.Map;

/** A call of a method of the document's face, to be made on the program or on the model of it. */
final class Call {
    static final String[] NAMES = {
        "addFlat", "addHousehold", "change", "wish", "unwish", "readLists", "draw", "round",
        "decline", "appeal", "swap", "moveOut", "type", "clearText", "undo", "keep", "restore",
        "flat", "household", "wished", "ordered", "envies", "wouldGet", "most", "count"};

    private static final Map<Class<?>, Map<String, Method>> METHODS = new HashMap<>();

    private final String name;
    private final int[] arguments;

    /** A boolean is given as 0 or 1, a character by its number. */
    Call(String name, int... arguments) {
        this.name = name;
        this.arguments = arguments;
    }

    /** A call that is written as in the document: "wish(0, 1)", "change(0, true, 5)". */
    static Call of(String written) {
        int open = written.indexOf('(');
        String inside = written.substring(open + 1, written.length() - 1).trim();
        String[] words = inside.isEmpty() ? new String[0] : inside.split("\\s*,\\s*");
        int[] arguments = new int[words.length];
        for (int i = 0; i < words.length; i++) {
            arguments[i] = words[i].equals("true") ? 1
                : words[i].equals("false") ? 0
                : words[i].equals("NONE") ? FlatLottery.NONE
                : Integer.parseInt(words[i]);
        }
        return new Call(written.substring(0, open), arguments);
    }

    static Method method(Class<?> type, String name) {
        Map<String, Method> known = METHODS.computeIfAbsent(type, any -> new HashMap<>());
        Method found = known.computeIfAbsent(name, any -> search(type, name));
        if (found == null) {
            throw new IllegalArgumentException("no method " + name + " in " + type);
        }
        return found;
    }

    private static Method search(Class<?> type, String name) {
        for (Method method : type.getDeclaredMethods()) {
            if (method.getName().equals(name) && !method.isSynthetic()) {
                return method;
            }
        }
        return null;
    }

    int on(Object target) {
        Method method = method(target.getClass(), name);
        Class<?>[] kinds = method.getParameterTypes();
        Object[] given = new Object[kinds.length];
        for (int i = 0; i < kinds.length; i++) {
            given[i] = kinds[i] == boolean.class ? (Object) (arguments[i] != 0)
                : kinds[i] == char.class ? (Object) (char) arguments[i]
                : (Object) arguments[i];
        }
        try {
            return (Integer) method.invoke(target, given);
        } catch (InvocationTargetException thrown) {
            throw new IllegalStateException(this + " threw", thrown.getCause());
        } catch (IllegalAccessException hidden) {
            throw new IllegalStateException(this + " can't be made", hidden);
        }
    }

    @Override
    public String toString() {
        StringBuilder written = new StringBuilder(name).append('(');
        for (int i = 0; i < arguments.length; i++) {
            written.append(i == 0 ? "" : ", ").append(arguments[i]);
        }
        return written.append(')').toString();
    }
}
