import java.lang.reflect.Constructor;
import java.lang.reflect.Field;
import java.lang.reflect.Method;
import java.lang.reflect.Modifier;
import java.util.TreeSet;

/** The public face of the document, and rule 1 of LANGUAGE.md. */
public final class FaceTest {
    private static final String[] FACE = {
        "boolean type(char)", "int enter(int)", "int length(int)", "int character(int, int)", "int scale(int)",
        "int apply(int, int, int, int)", "int adjust(int, int, int, int)", "int fit(int, int, int)",
        "int compare(int, int)", "int accept(int, int)", "int discard(int, int)", "int merge(int, int)",
        "boolean reset(int)", "int count(int)", "int total(int, int)", "int average(int, int)"};

    public static void main(String[] args) {
        Checks checks = new Checks("FaceTest");
        Class<?> desk = ScaledNumeralDesk.class;
        checks.same("public and final", desk.getModifiers(), Modifier.PUBLIC | Modifier.FINAL);
        Constructor<?>[] constructors = desk.getDeclaredConstructors();
        checks.same("constructors", constructors.length, 1);
        checks.same("constructor", constructors[0].toString(), "public ScaledNumeralDesk()");
        checks.same("methods", facade(desk), new TreeSet<>(java.util.List.of(FACE)));
        for (Field field : desk.getDeclaredFields()) {
            checks.same(field + " is private", Modifier.isPrivate(field.getModifiers()), true);
        }
        for (Class<?> inside : desk.getDeclaredClasses()) {
            checks.same(inside + " is static", Modifier.isStatic(inside.getModifiers()), true);
            for (Method method : inside.getDeclaredMethods()) {
                checks.same(method + " has a name of its own", isNameOfFace(method.getName()), false);
            }
        }
        checks.end();
    }

    private static TreeSet<String> facade(Class<?> desk) {
        TreeSet<String> found = new TreeSet<>();
        for (Method method : desk.getDeclaredMethods()) {
            if (Modifier.isPrivate(method.getModifiers()) && !isNameOfFace(method.getName())) {
                continue;
            }
            StringBuilder text = new StringBuilder();
            text.append(method.getReturnType()).append(' ').append(method.getName()).append('(');
            for (Class<?> parameter : method.getParameterTypes()) {
                text.append(text.charAt(text.length() - 1) == '(' ? "" : ", ").append(parameter);
            }
            found.add(text.append(')').toString());
        }
        return found;
    }

    private static boolean isNameOfFace(String name) {
        for (String method : FACE) {
            if (method.contains(" " + name + "(")) {
                return true;
            }
        }
        return false;
    }
}
