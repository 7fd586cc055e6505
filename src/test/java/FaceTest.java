import java.lang.reflect.Constructor;
import java.lang.reflect.Field;
import java.lang.reflect.Method;
import java.lang.reflect.Modifier;
import java.util.Set;
import java.util.TreeSet;

/** The face of the class is the document's, and nothing else of it can be reached. */
public final class FaceTest {
    private static final Set<String> FACE = Set.of(
            "int feed(int, int, int, int, int)", "boolean end(int)", "int cause(int, int, int, boolean)",
            "int pattern(int)", "int letter(int)", "int fault()", "void hours(int, int)", "int days(int)",
            "boolean answer(int, int)", "int point(int, int, int)", "int look(int, int)", "int late(int)",
            "int waits(int)", "int template(int)", "int counts(int, int)", "int wave(int)", "int count(int)");

    public static void main(String[] args) {
        Class<?> type = ComplaintDesk.class;
        Desk.due("the class is public and final", Modifier.toString(type.getModifiers()), "public final");
        Set<String> open = new TreeSet<>();
        Set<String> openNames = new TreeSet<>();
        for (Method method : type.getDeclaredMethods()) {
            if (!Modifier.isPrivate(method.getModifiers())) {
                open.add(told(method));
                openNames.add(method.getName());
                Desk.due(method.getName() + " is", Modifier.toString(method.getModifiers()), "public");
            }
        }
        Desk.due("the methods", open, new TreeSet<>(FACE));
        for (Method method : type.getDeclaredMethods()) {
            if (Modifier.isPrivate(method.getModifiers())) {
                Desk.due(method.getName() + " bears a public name", openNames.contains(method.getName()), false);
            }
        }
        Constructor<?>[] constructors = type.getDeclaredConstructors();
        Desk.due("constructors", constructors.length, 1);
        Desk.due("the constructor", constructors[0].toString(), "public ComplaintDesk()");
        for (Field field : type.getDeclaredFields()) {
            if (!Modifier.isPrivate(field.getModifiers())) {
                Desk.due("a field", field.toString(), "public static final int ComplaintDesk.NONE");
            }
        }
        for (Class<?> inside : type.getDeclaredClasses()) {
            int how = inside.getModifiers();
            Desk.due(inside.getName() + " is static", Modifier.isStatic(how), true);
            Desk.due(inside.getName() + " is hidden", Modifier.isPublic(how) || Modifier.isProtected(how), false);
        }
        Desk.close();
    }

    private static String told(Method method) {
        StringBuilder told = new StringBuilder();
        for (Class<?> parameter : method.getParameterTypes()) {
            told.append(told.length() == 0 ? "" : ", ").append(parameter.getName());
        }
        return method.getReturnType().getName() + " " + method.getName() + "(" + told + ")";
    }
}
