import java.lang.reflect.Constructor;
import java.lang.reflect.Field;
import java.lang.reflect.Method;
import java.lang.reflect.Modifier;
import java.util.Arrays;
import java.util.Set;
import java.util.TreeSet;

/** The public face: what the document lists, and no other member that can be seen from outside. */
final class FaceTest {
    private static final String BOUNDS = " throws IndexOutOfBoundsException";
    private static final String ARGUMENT = " throws IllegalArgumentException";
    private static final String BOTH = BOUNDS + ", IllegalArgumentException";
    private static final String[] FACE = {
        "int feed(int, long)" + ARGUMENT, "int wipe()", "int method()", "int command()", "int fault()", "int place()",
        "int call(int, int, int, int)" + BOUNDS, "int value()", "int invoked()", "int records()", "int record(int, int)" + BOTH, "int clear()",
        "int job(int, int)" + BOTH, "int counted(int, int, int)" + BOTH, "int keeps()", "int kept(int, int)" + BOTH, "int replay(int)" + BOUNDS};

    public static void main(String[] args) {
        Desk desk = new Desk();
        Class<?> console = ProbeConsole.class;
        desk.due("public and final", console.getModifiers(), Modifier.PUBLIC | Modifier.FINAL);
        Set<String> seen = new TreeSet<>();
        Set<String> names = new TreeSet<>();
        for (Method method : console.getDeclaredMethods()) {
            if (!Modifier.isPrivate(method.getModifiers())) {
                desk.due(method + " is public alone", method.getModifiers(), Modifier.PUBLIC);
                seen.add(told(method));
                names.add(method.getName());
            }
        }
        desk.due("the face is " + seen, seen.equals(new TreeSet<>(Arrays.asList(FACE))) ? 1 : 0, 1);
        for (Constructor<?> made : console.getDeclaredConstructors()) {
            desk.due(made + " is public", made.getModifiers(), Modifier.PUBLIC);
            desk.due(made + " has no parameters", made.getParameterCount(), 0);
        }
        for (Field field : console.getDeclaredFields()) {
            boolean open = !Modifier.isPrivate(field.getModifiers());
            desk.due(field + " is seen", open ? 1 : 0, field.getName().equals("NONE") ? 1 : 0);
            if (open) {
                desk.due(field + " is a public constant", field.getModifiers(), Modifier.PUBLIC | Modifier.STATIC | Modifier.FINAL);
                desk.due(field + " is an int", field.getType() == int.class ? 1 : 0, 1);
            }
        }
        desk.due("NONE", ProbeConsole.NONE, -1);
        for (Class<?> inside : console.getDeclaredClasses()) {
            desk.due(inside + " is static", inside.getModifiers() & (Modifier.STATIC | Modifier.PUBLIC | Modifier.PROTECTED), Modifier.STATIC);
            for (Method method : inside.getDeclaredMethods()) {
                desk.due(method + " bears a name of the face", names.contains(method.getName()) ? 1 : 0, 0);
            }
        }
        desk.end("FaceTest");
    }

    private static String told(Method method) {
        StringBuilder told = new StringBuilder(method.getReturnType() + " " + method.getName() + "(");
        for (Class<?> type : method.getParameterTypes()) {
            told.append(told.charAt(told.length() - 1) == '(' ? "" : ", ").append(type);
        }
        told.append(')');
        Class<?>[] thrown = method.getExceptionTypes();
        for (int i = 0; i < thrown.length; i++) {
            told.append(i == 0 ? " throws " : ", ").append(thrown[i].getSimpleName());
        }
        return told.toString();
    }
}
