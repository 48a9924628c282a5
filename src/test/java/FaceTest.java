import java.lang.reflect.Field;
import java.lang.reflect.Method;
import java.lang.reflect.Modifier;
import java.util.Arrays;
import java.util.Set;
import java.util.TreeSet;

/** The face is that of the document, and nothing else can be seen from outside. */
public final class FaceTest {
    private static final String[] METHODS = {
        "set(int, int)", "peg(int, int)", "order(int)", "ink(int)", "step(int)", "free()", "newForm()", "read()",
        "row(int, int)", "stamped(int, int)", "stamp(int, int)", "count(int)",
        "untilJam()", "ifStepped(int, int)", "bestOut()", "nextStamps(int)",
        "put(long)", "wipe()", "fault()", "undo()", "save(int)", "restore(int)"};
    private static final String[] CONSTANTS = {
        "NO_SUCH=-1", "BAD_VALUE=-2", "BAD_TEXT=-3", "TOO_MANY=-4", "NOT_POSSIBLE=-5", "NONE=-6",
        "FORM=0", "INK=1", "LIFE=2", "DOUBLES=3"};

    public static void main(String[] args) throws IllegalAccessException {
        Class<?> face = PegClerks.class;
        Checks.due("the class is public and final", face.getModifiers(), Modifier.PUBLIC | Modifier.FINAL);
        Checks.due("constructors", face.getDeclaredConstructors().length, 1);
        Checks.due("public constructors", face.getConstructors().length, 1);
        Checks.due("its parameters", face.getConstructors()[0].getParameterCount(), 0);
        Checks.sameState("methods", methods(face), new TreeSet<>(Arrays.asList(METHODS)).toString());
        Checks.sameState("constants", constants(face), new TreeSet<>(Arrays.asList(CONSTANTS)).toString());
        privateNames(face);
        Checks.end();
    }

    private static String methods(Class<?> face) {
        Set<String> names = new TreeSet<>();
        for (Method method : face.getDeclaredMethods()) {
            if (!Modifier.isPrivate(method.getModifiers())) {
                String parameters = Arrays.toString(method.getParameterTypes());
                names.add(method.getName() + "(" + parameters.substring(1, parameters.length() - 1) + ")");
                Checks.due(method + " answers an int", method.getReturnType() == int.class ? 1 : 0, 1);
                Checks.due(method + " is public", method.getModifiers(), Modifier.PUBLIC);
            }
        }
        return names.toString();
    }

    private static String constants(Class<?> face) throws IllegalAccessException {
        Set<String> names = new TreeSet<>();
        for (Field field : face.getDeclaredFields()) {
            if (!Modifier.isPrivate(field.getModifiers())) {
                names.add(field.getName() + "=" + field.getInt(null));
                Checks.due(field + " is constant", field.getModifiers(),
                    Modifier.PUBLIC | Modifier.STATIC | Modifier.FINAL);
            }
        }
        return names.toString();
    }

    private static void privateNames(Class<?> face) {
        Set<String> open = new TreeSet<>();
        for (String method : METHODS) {
            open.add(method.substring(0, method.indexOf('(')));
        }
        for (Method method : face.getDeclaredMethods()) {
            if (Modifier.isPrivate(method.getModifiers())) {
                Checks.due(method + " has a name of its own", open.contains(method.getName()) ? 1 : 0, 0);
            }
        }
        for (Class<?> inside : face.getDeclaredClasses()) {
            Checks.due(inside + " is static", Modifier.isStatic(inside.getModifiers()) ? 1 : 0, 1);
            Checks.due(inside + " is not public",
                inside.getModifiers() & (Modifier.PUBLIC | Modifier.PROTECTED), 0);
            for (Method method : inside.getDeclaredMethods()) {
                Checks.due(method + " has a name of its own", open.contains(method.getName()) ? 1 : 0, 0);
            }
        }
    }
}
