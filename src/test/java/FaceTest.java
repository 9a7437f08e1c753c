import java.lang.reflect.Constructor;
import java.lang.reflect.Field;
import java.lang.reflect.Method;
import java.lang.reflect.Modifier;
import java.util.Set;
import java.util.TreeSet;

/** The public face is the document's, and nothing else of the class can be reached from outside. */
public final class FaceTest {
    private static final String ARGUMENT = "java.lang.IllegalArgumentException";
    private static final String STATE = "java.lang.IllegalStateException";
    private static final String[] FACE = {
        "boolean tripped() throws ()",
        "int channel(int,int) throws (" + ARGUMENT + ")",
        "int demands(int) throws (" + ARGUMENT + ")",
        "int event(int,int) throws (java.util.NoSuchElementException," + ARGUMENT + ")",
        "int figure(int) throws (" + ARGUMENT + ")",
        "int latched(int) throws (" + ARGUMENT + ")",
        "int limit(int,int) throws (" + ARGUMENT + ")",
        "int tick() throws ()",
        "int votes(int,int) throws (" + ARGUMENT + ")",
        "void bypass(int) throws (" + ARGUMENT + "," + STATE + ")",
        "void fault(int,int,int) throws (" + ARGUMENT + ")",
        "void reset(int) throws (" + ARGUMENT + "," + STATE + ")",
        "void restore() throws (" + STATE + ")",
        "void sense(int,int,int) throws (" + ARGUMENT + ")",
        "void test(int,int) throws (" + ARGUMENT + "," + STATE + ")",
    };

    public static void main(String[] args) {
        Check check = new Check();
        Set<String> due = new TreeSet<>(Set.of(FACE));
        Set<String> names = new TreeSet<>();
        Set<String> got = new TreeSet<>();
        for (Method m : TripGuard.class.getDeclaredMethods()) {
            if (!Modifier.isPrivate(m.getModifiers())) {
                got.add(m.getReturnType().getName() + " " + m.getName() + types(m.getParameterTypes())
                        + " throws " + types(m.getExceptionTypes()));
                names.add(m.getName());
            }
        }
        check.same("the methods", got.toString(), due.toString());
        for (Class<?> inside : TripGuard.class.getDeclaredClasses()) {
            check.same(inside.getName() + " is static", Modifier.isStatic(inside.getModifiers()) ? 1 : 0, 1);
            for (Method m : inside.getDeclaredMethods()) {
                check.same(m.getName() + " is a name of the face", names.contains(m.getName()) ? 1 : 0, 0);
            }
        }
        for (Method m : TripGuard.class.getDeclaredMethods()) {
            if (Modifier.isPrivate(m.getModifiers())) {
                check.same(m.getName() + " is a name of the face", names.contains(m.getName()) ? 1 : 0, 0);
            }
        }
        Constructor<?>[] made = TripGuard.class.getDeclaredConstructors();
        check.same("constructors", made.length, 1);
        check.same("the constructor takes", types(made[0].getParameterTypes()), "(int)");
        check.same("the constructor throws", types(made[0].getExceptionTypes()), "()");
        check.same("the constructor is public", Modifier.isPublic(made[0].getModifiers()) ? 1 : 0, 1);
        for (Field f : TripGuard.class.getDeclaredFields()) {
            check.same(f.getName() + " is private", Modifier.isPrivate(f.getModifiers()) ? 1 : 0, 1);
        }
        int modifiers = TripGuard.class.getModifiers();
        check.same("public and final", Modifier.isPublic(modifiers) && Modifier.isFinal(modifiers) ? 1 : 0, 1);
        check.finish();
    }

    private static String types(Class<?>[] types) {
        StringBuilder text = new StringBuilder("(");
        for (int i = 0; i < types.length; i++) {
            text.append(i > 0 ? "," : "").append(types[i].getName());
        }
        return text.append(')').toString();
    }
}
