import java.lang.reflect.Field;
import java.lang.reflect.Method;
import java.lang.reflect.Modifier;
import java.util.Set;

/** Rules 3, 5 and 11 of ../shared/LANGUAGE.md, as far as the compiled classes can tell. */
public final class ShapeRulesTest {
    private static final Set<Class<?>> CONSTANTS = Set.of(
        int.class, long.class, boolean.class, char.class, String.class,
        int[].class, long[].class, char[].class, byte[].class);

    // What the class needs of the types that rule 3 lists, beside its own classes.
    private static final Set<Class<?>> TYPES = Set.of(
        int.class, long.class, boolean.class, void.class, int[].class);

    private static final Checks CHECKS = new Checks();

    public static void main(String[] args) {
        Class<?>[] classes = TickWalks.class.getNestMembers();
        CHECKS.due("at most twelve classes", classes.length <= 12, true);
        for (Class<?> one : classes) {
            fields(one);
            methods(one);
        }
        CHECKS.end();
    }

    private static void fields(Class<?> one) {
        int ownFields = 0;
        for (Field field : one.getDeclaredFields()) {
            if (Modifier.isStatic(field.getModifiers())) {
                CHECKS.due(field + " is final", Modifier.isFinal(field.getModifiers()), true);
                CHECKS.due(field + " is a constant", CONSTANTS.contains(field.getType()), true);
            } else {
                ownFields++;
                listed(field.toString(), field.getType());
            }
        }
        CHECKS.due(one + ": at most twenty fields", ownFields <= 20, true);
    }

    private static void methods(Class<?> one) {
        for (Method method : one.getDeclaredMethods()) {
            CHECKS.due(method + ": at most seven parameters", method.getParameterCount() <= 7, true);
            listed(method.toString(), method.getReturnType());
            for (Class<?> type : method.getParameterTypes()) {
                listed(method.toString(), type);
            }
        }
    }

    private static void listed(String member, Class<?> type) {
        boolean own = type.getNestHost() == TickWalks.class && !type.isArray();
        CHECKS.due(member + ": " + type + " is a type that is used", own || TYPES.contains(type), true);
    }
}
