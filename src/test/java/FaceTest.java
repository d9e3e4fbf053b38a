import java.lang.reflect.Field;
import java.lang.reflect.Member;
import java.lang.reflect.Method;
import java.lang.reflect.Modifier;
import java.util.Arrays;
import java.util.Set;
import java.util.TreeSet;

/** The face of the class is the document's, and nothing else of it can be seen from outside. */
public final class FaceTest {
    private static final Set<String> METHODS = new TreeSet<>(Arrays.asList(
            "int job(int, int, int, boolean, boolean)",
            "boolean needs(int, int)",
            "int runner(int)",
            "boolean lost(int)",
            "int trigger(int, int)",
            "int approve(int, int, int)",
            "int take(int)",
            "boolean beat(int)",
            "boolean end(int, boolean, int)",
            "int tick(int)",
            "boolean cancel(int)",
            "int again(int)",
            "int state(int, int)",
            "int about(int, int, int)",
            "int verdict(int)",
            "int has(int)"));

    private FaceTest() {
    }

    public static void main(String[] args) throws ReflectiveOperationException {
        Due.is("class is public and final", JobStates.class.getModifiers(), Modifier.PUBLIC | Modifier.FINAL);
        Due.is("constructors", JobStates.class.getDeclaredConstructors().length, 1);
        Due.is("constructor", JobStates.class.getConstructor().getModifiers(), Modifier.PUBLIC);
        methods();
        fields();
        Due.finish();
    }

    private static void methods() {
        Set<String> seen = new TreeSet<>();
        for (Method method : JobStates.class.getDeclaredMethods()) {
            if (isSeen(method)) {
                seen.add(tell(method));
                Due.is(method + " is only public", method.getModifiers(), Modifier.PUBLIC);
            }
        }
        Due.is("methods " + seen, seen.equals(METHODS), true);
    }

    private static void fields() {
        int constant = Modifier.PUBLIC | Modifier.STATIC | Modifier.FINAL;
        for (Field field : JobStates.class.getDeclaredFields()) {
            boolean isFace = field.getName().equals("NONE") && field.getType() == int.class;
            Due.is("field " + field + " is seen", isSeen(field), isFace);
            Due.is("field " + field + " is a constant", field.getModifiers() == constant, isFace);
        }
    }

    private static boolean isSeen(Member member) {
        return !Modifier.isPrivate(member.getModifiers());
    }

    private static String tell(Method method) {
        String parameters = Arrays.toString(method.getParameterTypes());
        return method.getReturnType() + " " + method.getName()
                + "(" + parameters.substring(1, parameters.length() - 1) + ")";
    }
}
