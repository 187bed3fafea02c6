import java.lang.reflect.Constructor;
import java.lang.reflect.Field;
import java.lang.reflect.Method;
import java.lang.reflect.Modifier;
import java.util.Set;
import java.util.TreeSet;

/** The public face is the document's, and nothing else of the class is seen from outside. */
public final class FaceTest {
    private static final Set<String> FACE = Set.of(
        "int lambda(int,int)", "boolean put(int,int)", "void clear()", "int lambdas()", "int atom(int,int)",
        "void start()", "int step(int)", "int state()", "int at()", "int value(int,int)", "int result()",
        "int called(int)", "int analyse(int)", "int flow(int)", "int contours(int)", "int constants(int,int)",
        "int closures(int,int)", "int results()");

    public static void main(String[] args) {
        Due due = new Due("FaceTest");
        due.is("the class is public and final",
            ClosureFlows.class.getModifiers() == (Modifier.PUBLIC | Modifier.FINAL), true);
        methods(due);
        constructors(due);
        fields(due);
        due.end();
    }

    private static void methods(Due due) {
        Set<String> seen = new TreeSet<>();
        for (Method method : ClosureFlows.class.getDeclaredMethods()) {
            if (!Modifier.isPrivate(method.getModifiers())) {
                due.is(method + " is a plain public one", method.getModifiers() == Modifier.PUBLIC, true);
                seen.add(signature(method));
            }
        }
        due.is("the methods " + seen + " are those of the document", seen.equals(new TreeSet<>(FACE)), true);
    }

    private static String signature(Method method) {
        StringBuilder text = new StringBuilder();
        for (Class<?> type : method.getParameterTypes()) {
            text.append(text.length() == 0 ? "" : ",").append(type.getName());
        }
        return method.getReturnType().getName() + " " + method.getName() + "(" + text + ")";
    }

    private static void constructors(Due due) {
        Constructor<?>[] constructors = ClosureFlows.class.getDeclaredConstructors();
        due.is("number of constructors", constructors.length, 1);
        due.is("the constructor is public", constructors[0].getModifiers() == Modifier.PUBLIC, true);
        due.is("its parameters", constructors[0].getParameterCount(), 0);
    }

    private static void fields(Due due) {
        for (Field field : ClosureFlows.class.getDeclaredFields()) {
            due.is(field + " is private", Modifier.isPrivate(field.getModifiers()), true);
        }
    }
}
