import java.lang.reflect.Constructor;
import java.lang.reflect.Field;
import java.lang.reflect.Member;
import java.lang.reflect.Method;
import java.lang.reflect.Modifier;
import java.util.Arrays;
import java.util.Set;
import java.util.TreeSet;

/** The class shows the document's face and nothing else. */
public final class FaceTest {
    private static final String FACE = """
        addFlat(int, int)
        addHousehold(int, int)
        appeal(int, int)
        change(int, boolean, int)
        clearText()
        count(int)
        decline(int)
        draw(int, int)
        envies(int, int)
        flat(int, int)
        household(int, int)
        keep()
        most()
        moveOut(int)
        ordered(int)
        readLists()
        restore()
        round()
        swap()
        type(char)
        undo()
        unwish(int, int)
        wish(int, int)
        wished(int, int)
        wouldGet(int, int)
        """;
    private static int wrong = 0;

    public static void main(String[] args) throws IllegalAccessException {
        Class<?> type = FlatLottery.class;
        due("public final", type.getModifiers(), Modifier.PUBLIC | Modifier.FINAL);
        methods(type);
        constants(type);
        Constructor<?>[] constructors = type.getDeclaredConstructors();
        due("constructors", constructors.length, 1);
        due("the constructor's modifiers", constructors[0].getModifiers(), Modifier.PUBLIC);
        due("the constructor's arguments", constructors[0].getParameterCount(), 0);
        for (Class<?> inside : type.getDeclaredClasses()) {
            due(inside + " is static", Modifier.isStatic(inside.getModifiers()), true);
            due(inside + " is hidden", isShown(inside.getModifiers()), false);
        }
        if (wrong != 0) {
            System.exit(1);
        }
    }

    private static void methods(Class<?> type) {
        Set<String> shown = new TreeSet<>();
        Set<String> hidden = new TreeSet<>();
        for (Method method : type.getDeclaredMethods()) {
            if (!Modifier.isPrivate(method.getModifiers())) {
                due(method + " is public", method.getModifiers(), Modifier.PUBLIC);
                due(method + " answers int", method.getReturnType() == int.class, true);
                String kinds = Arrays.toString(method.getParameterTypes());
                String inside = kinds.substring(1, kinds.length() - 1);
                shown.add(method.getName() + "(" + inside + ")");
            } else {
                hidden.add(method.getName());
            }
        }
        due("methods", String.join("\n", shown) + "\n", FACE);
        for (String name : Call.NAMES) {
            due("a private method bears the name " + name, hidden.contains(name), false);
        }
    }

    private static void constants(Class<?> type) throws IllegalAccessException {
        String[] names = {"UNKNOWN", "BAD_VALUE", "FULL", "NOT_POSSIBLE", "NONE"};
        Set<String> shown = new TreeSet<>();
        for (Field field : type.getDeclaredFields()) {
            if (!Modifier.isPrivate(field.getModifiers())) {
                shown.add(field.getName());
                int all = Modifier.PUBLIC | Modifier.STATIC | Modifier.FINAL;
                due(field + " is a public constant", field.getModifiers(), all);
                due(field + " is", field.getInt(null), -1 - Arrays.asList(names).indexOf(field.getName()));
            }
        }
        due("constants", shown, new TreeSet<>(Arrays.asList(names)));
    }

    private static boolean isShown(int modifiers) {
        return Modifier.isPublic(modifiers) || Modifier.isProtected(modifiers);
    }

    private static void due(String what, Object got, Object want) {
        if (!got.equals(want)) {
            wrong++;
            System.out.println(what + ": " + got + ", due is " + want);
        }
    }
}
