import java.lang.reflect.Constructor;
import java.lang.reflect.Field;
import java.lang.reflect.Method;
import java.lang.reflect.Modifier;
import java.util.Set;
import java.util.TreeSet;

/** The class shows the document's face, and no member beside it: the classes inside are static and not shown. */
public final class FaceTest {
    private static final Set<String> DUE = Set.of(
        "final UNKNOWN = -101", "final OUTSIDE = -102", "final STATE = -103", "final ROOM = -104",
        "SwingBridge()",
        "add(int,int,int,int)", "weight(int)",
        "toll(int,int) ArithmeticException",
        "fits(int)",
        "enter(int,int) IllegalStateException ArithmeticException",
        "leave(int)", "rebate(int)", "bill(int,int)", "month(int,int)", "swing(boolean)", "rush(int)",
        "clear()", "tell(int,int)", "deck(int)", "began(int)", "count(int)");

    public static void main(String[] args) throws IllegalAccessException {
        Set<String> shown = new TreeSet<>();
        for (Field f : SwingBridge.class.getDeclaredFields()) {
            if (!Modifier.isPrivate(f.getModifiers())) {
                boolean constant = f.getModifiers() == (Modifier.PUBLIC | Modifier.STATIC | Modifier.FINAL);
                shown.add(constant && f.getType() == int.class
                    ? "final " + f.getName() + " = " + f.getInt(null)
                    : "field " + f.getName());
            }
        }
        for (Constructor<?> c : SwingBridge.class.getDeclaredConstructors()) {
            if (!Modifier.isPrivate(c.getModifiers())) {
                shown.add(signature("SwingBridge", c.getParameterTypes(), c.getExceptionTypes()));
            }
        }
        for (Method m : SwingBridge.class.getDeclaredMethods()) {
            if (!Modifier.isPrivate(m.getModifiers())) {
                boolean plain = m.getModifiers() == Modifier.PUBLIC && m.getReturnType() == int.class;
                shown.add((plain ? "" : m.toString() + " ")
                    + signature(m.getName(), m.getParameterTypes(), m.getExceptionTypes()));
            }
        }
        for (Class<?> inside : SwingBridge.class.getDeclaredClasses()) {
            boolean hidden = (inside.getModifiers() & (Modifier.PUBLIC | Modifier.PROTECTED)) == 0;
            if (!hidden || !Modifier.isStatic(inside.getModifiers())) {
                shown.add("class " + inside.getSimpleName());
            }
        }
        if (SwingBridge.class.getSuperclass() != Object.class || SwingBridge.class.getInterfaces().length > 0) {
            shown.add("what it extends or implements");
        }
        boolean isFinal = SwingBridge.class.getModifiers() == (Modifier.PUBLIC | Modifier.FINAL);
        if (!isFinal || !shown.equals(DUE)) {
            System.out.println("the face is " + shown + ", due is " + new TreeSet<>(DUE)
                + (isFinal ? "" : ", and the class is not public and final"));
            System.exit(1);
        }
    }

    private static String signature(String name, Class<?>[] parameters, Class<?>[] exceptions) {
        StringBuilder text = new StringBuilder(name).append('(');
        for (int i = 0; i < parameters.length; i++) {
            text.append(i == 0 ? "" : ",").append(parameters[i].getName());
        }
        text.append(')');
        for (Class<?> e : exceptions) {
            text.append(' ').append(e.getSimpleName());
        }
        return text.toString();
    }
}
