import java.lang.reflect.Constructor;
import java.lang.reflect.Field;
import java.lang.reflect.Method;
import java.lang.reflect.Modifier;
import java.util.Arrays;
import java.util.Set;
import java.util.TreeSet;

/** The public face is the document's, and nothing else can be seen. */
public final class FaceTest {
    private static final String[] METHODS = {
        "void reset()", "int put(int,int) NoSuchElementException", "int word(int) NoSuchElementException",
        "int set(int,int) NoSuchElementException", "int register(int) NoSuchElementException", "int go(int)",
        "int status(int)", "int lines(int) IllegalArgumentException", "int step()",
        "int run(int) IllegalArgumentException", "int look(int) NoSuchElementException"};

    public static void main(String[] args) {
        Check.is("the class is public and final", SlotCore.class.getModifiers(), Modifier.PUBLIC | Modifier.FINAL);
        Check.is("NONE", SlotCore.NONE, -1);
        constructors();
        fields();
        methods();
        Check.end();
    }

    private static void constructors() {
        Constructor<?>[] all = SlotCore.class.getDeclaredConstructors();
        Check.is("constructors", all.length, 1);
        Check.is("its parameters", all[0].getParameterCount(), 0);
        Check.is("it is public", all[0].getModifiers(), Modifier.PUBLIC);
    }

    private static void fields() {
        for (Field field : SlotCore.class.getDeclaredFields()) {
            boolean none = field.getName().equals("NONE");
            int want = Modifier.PUBLIC | Modifier.STATIC | Modifier.FINAL;
            if (none) {
                Check.is("modifiers of NONE", field.getModifiers(), want);
            } else {
                Check.is(field + " is private", field.getModifiers() & Modifier.PRIVATE, Modifier.PRIVATE);
            }
        }
    }

    private static void methods() {
        Set<String> want = new TreeSet<>(Arrays.asList(METHODS));
        Set<String> names = new TreeSet<>();
        for (Method method : SlotCore.class.getDeclaredMethods()) {
            if (!Modifier.isPrivate(method.getModifiers())) {
                Check.is(told(method) + " is in the document", want.remove(told(method)) ? 1 : 0, 1);
                names.add(method.getName());
            }
        }
        Check.is("methods that are missing: " + want, want.size(), 0);
        for (Method method : SlotCore.class.getDeclaredMethods()) {
            if (Modifier.isPrivate(method.getModifiers())) {
                Check.is("private " + method.getName(), names.contains(method.getName()) ? 1 : 0, 0);
            }
        }
    }

    private static String told(Method method) {
        StringBuilder text = new StringBuilder();
        text.append(method.getReturnType().getSimpleName()).append(' ').append(method.getName()).append('(');
        for (int n = 0; n < method.getParameterCount(); n++) {
            text.append(n == 0 ? "" : ",").append(method.getParameterTypes()[n].getSimpleName());
        }
        text.append(')');
        for (Class<?> thrown : method.getExceptionTypes()) {
            text.append(' ').append(thrown.getSimpleName());
        }
        return text.toString();
    }
}
