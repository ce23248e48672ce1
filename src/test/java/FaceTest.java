import java.lang.reflect.Constructor;
import java.lang.reflect.Field;
import java.lang.reflect.Method;
import java.lang.reflect.Modifier;
import java.util.ArrayList;
import java.util.Arrays;
import java.util.Collections;
import java.util.List;

/** The class shows the document's face and nothing else. */
public final class FaceTest {
    private static final List<String> FACE = List.of(
            "boolean inside(int, int) throws IndexOutOfBoundsException, IllegalStateException",
            "boolean type(char)",
            "int at(int, int, int) throws IndexOutOfBoundsException, IllegalStateException",
            "int clock(int)",
            "int compare(int, int) throws IndexOutOfBoundsException, IllegalStateException",
            "int compile(int) throws IndexOutOfBoundsException",
            "int dateOf(int, int)",
            "int dayOf(int, int, int)",
            "int dead(int, int) throws IndexOutOfBoundsException, IllegalStateException",
            "int elapsed(int, int, boolean) throws IndexOutOfBoundsException",
            "int feast(int)",
            "int next(int, int, int) throws IndexOutOfBoundsException, IllegalStateException",
            "int run(int, int, int, int) throws IndexOutOfBoundsException, IllegalStateException",
            "int total(int, int, int, int) throws IndexOutOfBoundsException, IllegalStateException",
            "int which(int, int, int) throws IndexOutOfBoundsException, IllegalStateException",
            "int wipe()",
            "void shifts(boolean)");

    private FaceTest() {
    }

    public static void main(String[] args) {
        Class<?> program = RuleCalendar.class;
        Check.same("public and final", program.getModifiers(), Modifier.PUBLIC | Modifier.FINAL);
        List<String> methods = new ArrayList<>();
        for (Method method : program.getDeclaredMethods()) {
            if (!Modifier.isPrivate(method.getModifiers())) {
                methods.add(told(method));
            }
        }
        Collections.sort(methods);
        Check.same("methods: " + methods, methods.equals(FACE), true);
        for (Field field : program.getDeclaredFields()) {
            boolean shown = !Modifier.isPrivate(field.getModifiers());
            Check.same("field " + field.getName(), shown, field.getName().equals("NONE"));
        }
        Constructor<?>[] constructors = program.getDeclaredConstructors();
        Check.same("constructors", constructors.length, 1);
        Check.same("its parameters", constructors[0].getParameterCount(), 0);
        Check.same("it is public", constructors[0].getModifiers(), Modifier.PUBLIC);
        Check.end("FaceTest");
    }

    private static String told(Method method) {
        String text = method.getReturnType() + " " + method.getName() + listed(method.getParameterTypes());
        Class<?>[] thrown = method.getExceptionTypes();
        String names = listed(thrown);
        return thrown.length == 0 ? text : text + " throws " + names.substring(1, names.length() - 1);
    }

    private static String listed(Class<?>[] types) {
        String[] names = Arrays.stream(types).map(Class::getSimpleName).toArray(String[]::new);
        return "(" + String.join(", ", names) + ")";
    }
}
