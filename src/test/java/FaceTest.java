import java.lang.reflect.Constructor;
import java.lang.reflect.Field;
import java.lang.reflect.Method;
import java.lang.reflect.Modifier;
import java.util.TreeSet;

/** The public face: the document's members, each with its throws clause, and none beside them. */
public final class FaceTest {
    private static final String I = "IndexOutOfBoundsException";
    private static final String A = "IllegalArgumentException";
    private static final String S = "IllegalStateException";

    private static final String[] FACE = {
        "int NONE", "int STORE", "int DOCKED", "int RIDDEN", "int VAN", "WheelDocks() []",
        "void lies(int,int,int,int) [" + I + "," + A + "]", "int pass(int) [" + A + "," + S + "]",
        "void docks(int,int) [" + I + "," + A + "," + S + "]",
        "boolean put(int,int) [" + I + "," + S + "]", "boolean take(int) [" + I + "," + S + "]",
        "boolean unlocked(int,int,int) [" + I + "," + A + "," + S + "]",
        "boolean locked(int,int,int) [" + I + "," + A + "," + S + "]",
        "boolean faulty(int,int,int) [" + I + "," + A + "," + S + "]",
        "boolean mend(int) [" + I + "," + S + "]", "void price(int) [" + A + "," + S + "]",
        "boolean promise(int,int) [" + I + "," + S + "]",
        "int cycle(int,int) [" + I + "," + A + "]", "int station(int,int) [" + I + "," + A + "]",
        "int rider(int,int) [" + I + "," + A + "]", "int odd() []", "int nearest(int) [" + I + "]",
        "int way(int,int) [" + I + "]", "int plan() []", "boolean agrees() []",
    };

    public static void main(String[] args) throws Exception {
        Check check = new Check();
        TreeSet<String> want = new TreeSet<>();
        for (String member : FACE) {
            want.add(member);
        }
        TreeSet<String> got = new TreeSet<>();
        for (Field field : WheelDocks.class.getDeclaredFields()) {
            if (!Modifier.isPrivate(field.getModifiers())) {
                got.add(field.getType().getSimpleName() + " " + field.getName());
                check.due(field.getName() + " is public static final",
                        Modifier.PUBLIC | Modifier.STATIC | Modifier.FINAL, field::getModifiers);
            }
        }
        for (Constructor<?> made : WheelDocks.class.getDeclaredConstructors()) {
            if (!Modifier.isPrivate(made.getModifiers())) {
                got.add("WheelDocks" + names("()", made.getParameterTypes())
                        + " " + names("[]", made.getExceptionTypes()));
            }
        }
        for (Method method : WheelDocks.class.getDeclaredMethods()) {
            if (!Modifier.isPrivate(method.getModifiers()) && !method.isSynthetic()) {
                got.add(method.getReturnType().getSimpleName() + " " + method.getName()
                        + names("()", method.getParameterTypes())
                        + " " + names("[]", method.getExceptionTypes()));
                check.due(method.getName() + " is public", Modifier.PUBLIC, method::getModifiers);
            }
        }
        check.same("the face", want.toString(), got.toString());
        check.due("the class is public and final", Modifier.PUBLIC | Modifier.FINAL, WheelDocks.class::getModifiers);
        check.due("NONE", -1, () -> WheelDocks.NONE);
        check.due("STORE", 0, () -> WheelDocks.STORE);
        check.due("DOCKED", 1, () -> WheelDocks.DOCKED);
        check.due("RIDDEN", 2, () -> WheelDocks.RIDDEN);
        check.due("VAN", 3, () -> WheelDocks.VAN);
        check.end("FaceTest");
    }

    private static String names(String brackets, Class<?>[] types) {
        StringBuilder names = new StringBuilder().append(brackets.charAt(0));
        for (int i = 0; i < types.length; i++) {
            names.append(i == 0 ? "" : ",").append(types[i].getSimpleName());
        }
        return names.append(brackets.charAt(1)).toString();
    }
}
