import java.lang.reflect.Constructor;
import java.lang.reflect.Field;
import java.lang.reflect.Method;
import java.lang.reflect.Modifier;
import java.util.Map;
import java.util.TreeMap;

/** The public face: exactly the members of the document, with the exceptions that they declare. */
public final class FaceTest {
    private static final String[] FACE = {
        "int append(int) A S", "int clearText()", "int errorPosition()", "int load() S",
        "int about(int) A", "int tile(int,int,int) B A", "int player(int,int) B A",
        "int setting(int) A", "int begin(int,long) A", "int shift(int,int,int) B A S",
        "int go(int) B S", "int lock(int) B S", "int play() S", "int set(int,int) A",
        "int undo() S", "boolean canShift(int,int,int) B A", "int ifShifted(int,int,int,int) B A",
        "int worstShift(int) A", "int steps(int,int) B", "int goesOn(int) A",
        "int runScript(int,long) A", "int simulate(long,int) A", "int save(int) B",
        "int restore(int) B S",
    };

    public static void main(String[] args) throws NoSuchFieldException {
        Check.eq("NONE", ShiftIsles.NONE, -1);
        Check.yes("the class is public", Modifier.isPublic(ShiftIsles.class.getModifiers()));
        Check.yes("the class is final", Modifier.isFinal(ShiftIsles.class.getModifiers()));
        methods();
        constructors();
        fields();
        hidden(ShiftIsles.class);
        for (Class<?> inside : ShiftIsles.class.getDeclaredClasses()) {
            Check.no("public class inside " + inside, Modifier.isPublic(inside.getModifiers()));
            Check.no("protected class inside " + inside, Modifier.isProtected(inside.getModifiers()));
            Check.yes("static class inside " + inside, Modifier.isStatic(inside.getModifiers()));
            hidden(inside);
        }
        Check.end();
    }

    /** Rules 1, 5 and 11 of ../shared/LANGUAGE.md, for the class and for those inside it. */
    private static void hidden(Class<?> owner) {
        int ownFields = 0;
        for (Field field : owner.getDeclaredFields()) {
            if (Modifier.isStatic(field.getModifiers())) {
                Check.yes(field + " is final", Modifier.isFinal(field.getModifiers()));
            } else {
                ownFields++;
            }
        }
        Check.yes("some twenty fields of " + owner, ownFields <= 20);
        for (Method method : owner.getDeclaredMethods()) {
            Check.yes("parameters of " + method, method.getParameterCount() <= 7);
            boolean isFace = owner == ShiftIsles.class && Modifier.isPublic(method.getModifiers());
            Check.yes(method + " has a name of its own", isFace || !isNameOfFace(method.getName()));
        }
    }

    private static boolean isNameOfFace(String name) {
        for (String due : FACE) {
            if (due.contains(" " + name + "(")) {
                return true;
            }
        }
        return false;
    }

    private static void methods() {
        Map<String, Method> found = new TreeMap<>();
        for (Method method : ShiftIsles.class.getDeclaredMethods()) {
            if (!Modifier.isPrivate(method.getModifiers()) && !method.isSynthetic()) {
                Check.yes(method + " is public", Modifier.isPublic(method.getModifiers()));
                Check.no(method + " is static", Modifier.isStatic(method.getModifiers()));
                found.put(describe(method), method);
            }
        }
        for (String due : FACE) {
            Check.yes("there is " + due, found.remove(due) != null);
        }
        Check.same("other methods", found.keySet().toString(), "[]");
    }

    private static String describe(Method method) {
        StringBuilder text = new StringBuilder();
        text.append(method.getReturnType()).append(' ').append(method.getName()).append('(');
        for (int i = 0; i < method.getParameterCount(); i++) {
            text.append(i == 0 ? "" : ",").append(method.getParameterTypes()[i]);
        }
        text.append(')');
        for (Class<?> exception : method.getExceptionTypes()) {
            text.append(exception == Check.BOUNDS ? " B" : exception == Check.ARGUMENT ? " A"
                    : exception == Check.STATE ? " S" : " another");
        }
        return text.toString();
    }

    private static void constructors() {
        Constructor<?>[] all = ShiftIsles.class.getDeclaredConstructors();
        Check.eq("constructors", all.length, 1);
        Check.eq("parameters of it", all[0].getParameterCount(), 0);
        Check.yes("it is public", Modifier.isPublic(all[0].getModifiers()));
    }

    private static void fields() throws NoSuchFieldException {
        for (Field field : ShiftIsles.class.getDeclaredFields()) {
            boolean hidden = Modifier.isPrivate(field.getModifiers());
            Check.yes(field + " is private", hidden || field.getName().equals("NONE"));
        }
        int modifiers = ShiftIsles.class.getDeclaredField("NONE").getModifiers();
        Check.eq("NONE is public static final", modifiers,
                Modifier.PUBLIC | Modifier.STATIC | Modifier.FINAL);
    }
}
