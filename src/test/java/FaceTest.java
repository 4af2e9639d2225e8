import java.lang.reflect.Constructor;
import java.lang.reflect.Field;
import java.lang.reflect.Method;
import java.lang.reflect.Modifier;
import java.util.Arrays;
import java.util.Set;
import java.util.TreeSet;

/** The public face, and rule 1 of LANGUAGE.md: nothing beside it can be seen. */
public final class FaceTest {
    private static final String OUTSIDE = " throws IndexOutOfBoundsException";
    private static final String ARGUMENT = " IllegalArgumentException";
    private static final String STATE = " IllegalStateException";

    private static final String[] METHODS = {
        "void copyAt(int, int)" + OUTSIDE + STATE,
        "int want(int, int, int)" + OUTSIDE + ARGUMENT + STATE,
        "int lend(int, int)" + OUTSIDE + STATE,
        "int giveBack(int, int)" + OUTSIDE + STATE,
        "int van(int)" + OUTSIDE + STATE,
        "int sendAll(int)" + OUTSIDE + STATE,
        "int pending()",
        "int packet(int, int)" + OUTSIDE,
        "int deliver(int)" + OUTSIDE,
        "int drop(int)" + OUTSIDE,
        "boolean twin(int)" + OUTSIDE,
        "void crash(int)" + OUTSIDE + STATE,
        "int restart(int)" + OUTSIDE + STATE,
        "int of(int, int, int)" + OUTSIDE,
        "int reader(int, int, int)" + OUTSIDE,
        "int place(int)" + OUTSIDE,
        "int chain(int, int)" + OUTSIDE,
        "int served(int, int)" + OUTSIDE,
        "boolean leads(int, int)" + OUTSIDE + STATE,
        "boolean quiet()"
    };

    public static void main(String[] args) {
        Check.due("NONE", LoanArrows.NONE, -1);
        Check.due("the class is public and final", LoanArrows.class.getModifiers(), Modifier.PUBLIC | Modifier.FINAL);
        checkMethods();
        checkConstructors();
        checkFields();
        checkNestedClasses();
        Check.end();
    }

    private static void checkMethods() {
        Set<String> seen = new TreeSet<>();
        Set<String> publicNames = new TreeSet<>();
        for (Method method : LoanArrows.class.getDeclaredMethods()) {
            if (!Modifier.isPrivate(method.getModifiers())) {
                seen.add(signature(method));
                publicNames.add(method.getName());
            }
        }
        Set<String> due = new TreeSet<>(Arrays.asList(METHODS));
        if (!seen.equals(due)) {
            Check.report("the methods are " + seen + ", due are " + due);
        }
        for (Method method : LoanArrows.class.getDeclaredMethods()) {
            if (Modifier.isPrivate(method.getModifiers()) && publicNames.contains(method.getName())) {
                Check.report("a private method bears a public name: " + method);
            }
        }
    }

    private static String signature(Method method) {
        StringBuilder text = new StringBuilder();
        text.append(method.getReturnType()).append(' ').append(method.getName()).append('(');
        for (int i = 0; i < method.getParameterCount(); i++) {
            text.append(i == 0 ? "" : ", ").append(method.getParameterTypes()[i]);
        }
        text.append(')');
        for (int i = 0; i < method.getExceptionTypes().length; i++) {
            text.append(i == 0 ? " throws " : " ").append(method.getExceptionTypes()[i].getSimpleName());
        }
        return text.toString();
    }

    private static void checkConstructors() {
        Constructor<?>[] constructors = LoanArrows.class.getDeclaredConstructors();
        Check.due("how many constructors", constructors.length, 1);
        Check.due("the constructor is public", Modifier.isPublic(constructors[0].getModifiers()), true);
    }

    private static void checkFields() {
        for (Field field : LoanArrows.class.getDeclaredFields()) {
            boolean hidden = Modifier.isPrivate(field.getModifiers());
            Check.due("field " + field.getName() + " is hidden", hidden, !field.getName().equals("NONE"));
            if (Modifier.isStatic(field.getModifiers())) {
                Check.due("static " + field.getName() + " is final", Modifier.isFinal(field.getModifiers()), true);
            }
        }
    }

    private static void checkNestedClasses() {
        for (Class<?> nested : LoanArrows.class.getDeclaredClasses()) {
            Check.due(nested + " is static", Modifier.isStatic(nested.getModifiers()), true);
            Check.due(nested + " is public", Modifier.isPublic(nested.getModifiers()), false);
        }
    }
}
