import java.lang.reflect.Constructor;
import java.lang.reflect.Field;
import java.lang.reflect.Method;
import java.lang.reflect.Modifier;
import java.util.Set;
import java.util.TreeSet;

/** The class has the document's face and no other member that is not private. */
public final class FaceTest {
    private static final Set<String> FACE = Set.of(
        "public boolean TickWalks.place(int,int,int)",
        "public int TickWalks.line(int,int,int)",
        "public int TickWalks.arc(int,int,int,int,boolean)",
        "public int TickWalks.tick(int,int)",
        "public int TickWalks.ticks()",
        "public int TickWalks.at(int)",
        "public int TickWalks.off()",
        "public int TickWalks.strays()");

    public static void main(String[] args) {
        Checks checks = new Checks();
        Set<String> found = new TreeSet<>();
        for (Method method : TickWalks.class.getDeclaredMethods()) {
            if (!Modifier.isPrivate(method.getModifiers()) && !method.isSynthetic()) {
                found.add(method.toString());
            }
        }
        checks.due("the methods are those of the document: " + found, found.equals(FACE), true);
        for (Field field : TickWalks.class.getDeclaredFields()) {
            checks.due(field + " is private", Modifier.isPrivate(field.getModifiers()), true);
        }
        Constructor<?>[] constructors = TickWalks.class.getDeclaredConstructors();
        checks.due("constructors", constructors.length, 1);
        checks.due("the constructor", constructors[0].toString().equals("public TickWalks()"), true);
        checks.due("the class is public and final",
            TickWalks.class.getModifiers(), Modifier.PUBLIC | Modifier.FINAL);
        for (Class<?> inside : TickWalks.class.getDeclaredClasses()) {
            checks.due(inside + " is static", Modifier.isStatic(inside.getModifiers()), true);
        }
        checks.end();
    }
}
