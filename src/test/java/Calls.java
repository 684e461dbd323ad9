import java.lang.reflect.InvocationTargetException;
import java.lang.reflect.Method;

/** Calls a method of the document's face by its name, on the program or on the model of it. */
final class Calls {
    static final String[] NAMES = {
        "addFlat", "addHousehold", "change", "wish", "unwish", "readLists", "draw", "round",
        "decline", "appeal", "swap", "moveOut", "type", "clearText", "undo", "keep", "restore",
        "flat", "household", "wished", "ordered", "envies", "wouldGet", "most", "count"};

    private Calls() {
    }

    static Method method(Class<?> type, String name) {
        for (Method method : type.getDeclaredMethods()) {
            if (method.getName().equals(name) && !method.isSynthetic()) {
                return method;
            }
        }
        throw new IllegalArgumentException("no method " + name + " in " + type);
    }

    /** A boolean is told as 0 or 1, a character by its number. */
    static int answer(Object target, String name, int... arguments) {
        Method method = method(target.getClass(), name);
        Class<?>[] kinds = method.getParameterTypes();
        Object[] given = new Object[kinds.length];
        for (int i = 0; i < kinds.length; i++) {
            given[i] = kinds[i] == boolean.class ? (Object) (arguments[i] != 0)
                : kinds[i] == char.class ? (Object) (char) arguments[i]
                : (Object) arguments[i];
        }
        try {
            return (Integer) method.invoke(target, given);
        } catch (InvocationTargetException thrown) {
            throw new IllegalStateException(name + " threw", thrown.getCause());
        } catch (IllegalAccessException hidden) {
            throw new IllegalStateException(name + " can't be called", hidden);
        }
    }

    /** Answers a call that is written as in the document: "wish(0, 1)", "change(0, true, 5)". */
    static int answer(Object target, String call) {
        int open = call.indexOf('(');
        String inside = call.substring(open + 1, call.length() - 1).trim();
        String[] words = inside.isEmpty() ? new String[0] : inside.split("\\s*,\\s*");
        int[] arguments = new int[words.length];
        for (int i = 0; i < words.length; i++) {
            arguments[i] = words[i].equals("true") ? 1
                : words[i].equals("false") ? 0
                : words[i].equals("NONE") ? FlatLottery.NONE
                : Integer.parseInt(words[i]);
        }
        return answer(target, call.substring(0, open), arguments);
    }

    /** All that can be asked of a lottery without changing it. */
    static String told(Object target) {
        StringBuilder told = new StringBuilder();
        for (int what = -1; what <= 13; what++) {
            tell(told, target, "count", what);
        }
        tell(told, target, "most");
        int flats = answer(target, "count", 0);
        int households = answer(target, "count", 1);
        for (int flat = 0; flat <= flats; flat++) {
            for (int what = -1; what <= 5; what++) {
                tell(told, target, "flat", flat, what);
            }
        }
        for (int household = 0; household <= households; household++) {
            tell(told, target, "ordered", household);
            for (int what = -1; what <= 10; what++) {
                tell(told, target, "household", household, what);
            }
            for (int place = -1; place <= 6; place++) {
                tell(told, target, "wished", household, place);
            }
            tell(told, target, "wouldGet", household, FlatLottery.NONE);
            for (int other = 0; other <= households; other++) {
                tell(told, target, "envies", household, other);
                tell(told, target, "wouldGet", household, other);
            }
        }
        return told.toString();
    }

    private static void tell(StringBuilder told, Object target, String name, int... arguments) {
        told.append(written(name, arguments)).append(" = ");
        told.append(answer(target, name, arguments)).append('\n');
    }

    static String written(String name, int... arguments) {
        StringBuilder written = new StringBuilder(name).append('(');
        for (int i = 0; i < arguments.length; i++) {
            written.append(i == 0 ? "" : ", ").append(arguments[i]);
        }
        return written.append(')').toString();
    }

    static String firstDifference(String first, String second) {
        String[] firstLines = first.split("\n");
        String[] secondLines = second.split("\n");
        for (int i = 0; i < Math.min(firstLines.length, secondLines.length); i++) {
            if (!firstLines[i].equals(secondLines[i])) {
                return firstLines[i] + " against " + secondLines[i];
            }
        }
        return "different lengths";
    }
}
