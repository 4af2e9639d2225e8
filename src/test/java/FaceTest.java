import java.lang.reflect.Constructor;
import java.lang.reflect.Field;
import java.lang.reflect.Method;
import java.lang.reflect.Modifier;
import java.util.Arrays;
import java.util.Set;
import java.util.TreeSet;

/** The public face, and rule 1 of LANGUAGE.md: nothing beside it can be seen. */
public final class FaceTest {
    private static final String[] METHODS = {
        "void copyAt(int, int)", "int want(int, int, int)", "int lend(int, int)", "int giveBack(int, int)",
        "int van(int)", "int sendAll(int)", "int pending()", "int packet(int, int)", "int deliver(int)",
        "int drop(int)", "boolean twin(int)", "void crash(int)", "int restart(int)", "int of(int, int, int)",
        "int reader(int, int, int)", "int place(int)", "int chain(int, int)", "int served(int, int)",
        "boolean leads(int, int)", "boolean quiet()"
    };

    public static void main(String[] args) {
        Check.due("NONE", LoanArrows.NONE, -1);
        Check.due("the class is public and final", LoanArrows.class.getModifiers(), Modifier.PUBLIC | Modifier.FINAL);
        checkMethods();
        checkConstructors();
        checkFields();
        checkNestedClasses();
        Check.end();
    }

    private static void checkMethods() {
        Set<String> seen = new TreeSet<>();
        Set<String> publicNames = new TreeSet<>();
        for (Method method : LoanArrows.class.getDeclaredMethods()) {
            if (!Modifier.isPrivate(method.getModifiers())) {
                seen.add(signature(method));
                publicNames.add(method.getName());
            }
        }
        Set<String> due = new TreeSet<>(Arrays.asList(METHODS));
        if (!seen.equals(due)) {
            Check.report("the methods are " + seen + ", due are " + due);
        }
        for (Method method : LoanArrows.class.getDeclaredMethods()) {
            if (Modifier.isPrivate(method.getModifiers()) && publicNames.contains(method.getName())) {
                Check.report("a private method bears a public name: " + method);
            }
        }
    }

    private static String signature(Method method) {
        StringBuilder text = new StringBuilder();
        text.append(method.getReturnType()).append(' ').append(method.getName()).append('(');
        for (int i = 0; i < method.getParameterCount(); i++) {
            text.append(i == 0 ? "" : ", ").append(method.getParameterTypes()[i]);
        }
        return text.append(')').toString();
    }

    private static void checkConstructors() {
        Constructor<?>[] constructors = LoanArrows.class.getDeclaredConstructors();
        Check.due("how many constructors", constructors.length, 1);
        Check.due("the constructor is public", Modifier.isPublic(constructors[0].getModifiers()), true);
    }

    private static void checkFields() {
        for (Field field : LoanArrows.class.getDeclaredFields()) {
            boolean hidden = Modifier.isPrivate(field.getModifiers());
            Check.due("field " + field.getName() + " is hidden", hidden, !field.getName().equals("NONE"));
            if (Modifier.isStatic(field.getModifiers())) {
                Check.due("static " + field.getName() + " is final", Modifier.isFinal(field.getModifiers()), true);
            }
        }
    }

    private static void checkNestedClasses() {
        for (Class<?> nested : LoanArrows.class.getDeclaredClasses()) {
            Check.due(nested + " is static", Modifier.isStatic(nested.getModifiers()), true);
            Check.due(nested + " is public", Modifier.isPublic(nested.getModifiers()), false);
        }
    }
}
