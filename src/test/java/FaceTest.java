import java.lang.reflect.Constructor;
import java.lang.reflect.Field;
import java.lang.reflect.Method;
import java.lang.reflect.Modifier;
import java.util.Set;
import java.util.TreeSet;

/** Rule 1: the class has the members under 'The public face' and no other that is not private. */
public final class FaceTest {
    private static final Set<String> FACE = Set.of(
        "public boolean TickWalks.place(int,int,int)",
        "public int TickWalks.line(int,int,int)",
        "public int TickWalks.arc(int,int,int,int,boolean)",
        "public int TickWalks.tick(int,int)",
        "public int TickWalks.ticks()",
        "public int TickWalks.at(int)",
        "public int TickWalks.off()",
        "public int TickWalks.strays()");

    private static final Checks CHECKS = new Checks();

    public static void main(String[] args) {
        theClass();
        methods();
        CHECKS.due("constructors", constructors(), "[public TickWalks()]");
        for (Field field : TickWalks.class.getDeclaredFields()) {
            CHECKS.due(field + " is private", Modifier.isPrivate(field.getModifiers()), true);
        }
        classesInside();
        CHECKS.end();
    }

    private static void theClass() {
        CHECKS.due("the class is public and final",
            Modifier.toString(TickWalks.class.getModifiers()), "public final");
        CHECKS.due("the class above it", TickWalks.class.getSuperclass().getName(), "java.lang.Object");
        CHECKS.due("its interfaces", TickWalks.class.getInterfaces().length, 0);
        CHECKS.due("its type parameters", TickWalks.class.getTypeParameters().length, 0);
        CHECKS.due("its package", TickWalks.class.getPackageName(), "");
    }

    private static void methods() {
        Set<String> found = new TreeSet<>();
        Set<String> publicNames = new TreeSet<>();
        for (Method method : TickWalks.class.getDeclaredMethods()) {
            if (!Modifier.isPrivate(method.getModifiers())) {
                found.add(method.toString());
                publicNames.add(method.getName());
            }
        }
        CHECKS.due("the methods", found.toString(), new TreeSet<>(FACE).toString());
        for (Method method : TickWalks.class.getDeclaredMethods()) {
            if (Modifier.isPrivate(method.getModifiers())) {
                CHECKS.due(method + " bears the name of a public one", publicNames.contains(method.getName()), false);
            }
        }
    }

    private static String constructors() {
        Set<String> found = new TreeSet<>();
        for (Constructor<?> constructor : TickWalks.class.getDeclaredConstructors()) {
            found.add(constructor.toString());
        }
        return found.toString();
    }

    private static void classesInside() {
        Class<?>[] declared = TickWalks.class.getDeclaredClasses();
        for (Class<?> inside : declared) {
            int modifiers = inside.getModifiers();
            CHECKS.due(inside + " is static", Modifier.isStatic(modifiers), true);
            CHECKS.due(inside + " is private or package-visible",
                Modifier.isPublic(modifiers) || Modifier.isProtected(modifiers), false);
        }
        // A local or anonymous class, or one inside a class inside, would be a nest member that is not declared here.
        CHECKS.due("the classes of the file", TickWalks.class.getNestMembers().length, declared.length + 1);
    }
}
