import java.lang.reflect.Constructor;
import java.lang.reflect.Field;
import java.lang.reflect.Method;
import java.lang.reflect.Modifier;
import java.util.Set;
import java.util.TreeSet;

/** The public face: just what the document tells. */
public final class FaceTest {
    private static final Check CHECK = new Check("FaceTest");

    public static void main(String[] args) {
        Set<String> want = Set.of("boolean camp 2", "boolean hour 2", "int racer 1", "boolean breaks 3",
            "boolean set 2", "int feed 5", "boolean end 1", "int book 0", "int fault 1", "int look 1", "int time 2",
            "int ran 3", "int standing 2", "int of 2", "int sets 0", "int goes 1", "int sweep 2");
        Set<String> names = new TreeSet<>();
        Set<String> got = new TreeSet<>();
        for (Method method : DesertTown.class.getDeclaredMethods()) {
            if (!Modifier.isPrivate(method.getModifiers())) {
                got.add(method.getReturnType() + " " + method.getName() + " " + method.getParameterCount());
                names.add(method.getName());
                CHECK.due(method.getName() + " is public", Modifier.isPublic(method.getModifiers()), true);
                for (Class<?> type : method.getParameterTypes()) {
                    CHECK.due(method.getName() + " takes numbers", type == int.class, true);
                }
            }
        }
        CHECK.due("the methods, " + got, got.equals(want), true);
        for (Method method : DesertTown.class.getDeclaredMethods()) {
            if (Modifier.isPrivate(method.getModifiers())) {
                CHECK.due(method.getName() + " is a name of its own", names.contains(method.getName()), false);
            }
        }
        for (Field field : DesertTown.class.getDeclaredFields()) {
            boolean isNone = field.getName().equals("NONE");
            CHECK.due(field.getName() + " is private", Modifier.isPrivate(field.getModifiers()), !isNone);
        }
        for (Constructor<?> constructor : DesertTown.class.getDeclaredConstructors()) {
            CHECK.due("the constructor is public", Modifier.isPublic(constructor.getModifiers()), true);
            CHECK.due("the constructor takes nothing", constructor.getParameterCount(), 0);
        }
        CHECK.due("the class is public", Modifier.isPublic(DesertTown.class.getModifiers()), true);
        CHECK.due("the class is final", Modifier.isFinal(DesertTown.class.getModifiers()), true);
        for (Class<?> inside : DesertTown.class.getDeclaredClasses()) {
            CHECK.due(inside + " is static", Modifier.isStatic(inside.getModifiers()), true);
        }
        CHECK.due("NONE", DesertTown.NONE, -1);
        CHECK.finish();
    }
}
