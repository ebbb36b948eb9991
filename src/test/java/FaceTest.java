import java.lang.reflect.Constructor;
import java.lang.reflect.Field;
import java.lang.reflect.Method;
import java.lang.reflect.Modifier;
import java.util.Arrays;
import java.util.HashSet;
import java.util.Set;
import java.util.TreeSet;

/** The class shows the document's face and nothing else. */
public final class FaceTest {
    private static final String[] FACE = {
        "int meaning(int,int,int)", "int body()", "int token(int,int)", "int clear()", "int mode(int,boolean)",
        "int end(int,boolean)", "int run()", "int at(int)", "int told(int)", "int decided(int)",
        "boolean same(int,int)", "int count(int)"
    };
    private static int wrong = 0;

    public static void main(String[] args) {
        Class<?> face = ConditionText.class;
        check("public and final", Modifier.isPublic(face.getModifiers()) && Modifier.isFinal(face.getModifiers()));
        checkMethods(face);
        checkFields(face);
        checkConstructors(face);
        checkNestedClasses(face);
        if (wrong > 0) {
            System.exit(1);
        }
    }

    private static void checkMethods(Class<?> face) {
        Set<String> open = new TreeSet<>();
        Set<String> openNames = new HashSet<>();
        Set<String> hiddenNames = new HashSet<>();
        for (Method method : face.getDeclaredMethods()) {
            if (Modifier.isPrivate(method.getModifiers())) {
                hiddenNames.add(method.getName());
            } else {
                open.add(signature(method));
                openNames.add(method.getName());
            }
        }
        check("methods are " + open, open.equals(new TreeSet<>(Arrays.asList(FACE))));
        for (Class<?> nested : face.getDeclaredClasses()) {
            for (Method method : nested.getDeclaredMethods()) {
                hiddenNames.add(method.getName());
            }
        }
        hiddenNames.retainAll(openNames);
        check("hidden methods with public names: " + hiddenNames, hiddenNames.isEmpty());
    }

    private static String signature(Method method) {
        StringBuilder text = new StringBuilder();
        text.append(method.getReturnType().getName()).append(' ').append(method.getName()).append('(');
        String comma = "";
        for (Class<?> type : method.getParameterTypes()) {
            text.append(comma).append(type.getName());
            comma = ",";
        }
        return text.append(')').toString();
    }

    private static void checkFields(Class<?> face) {
        for (Field field : face.getDeclaredFields()) {
            int modifiers = field.getModifiers();
            check("field is private: " + field, Modifier.isPrivate(modifiers));
            check("static field is final: " + field, !Modifier.isStatic(modifiers) || Modifier.isFinal(modifiers));
        }
    }

    private static void checkConstructors(Class<?> face) {
        Constructor<?>[] all = face.getDeclaredConstructors();
        check("one public constructor without parameters",
            all.length == 1 && Modifier.isPublic(all[0].getModifiers()) && all[0].getParameterCount() == 0);
    }

    private static void checkNestedClasses(Class<?> face) {
        for (Class<?> nested : face.getDeclaredClasses()) {
            int modifiers = nested.getModifiers();
            check("nested class is static and hidden: " + nested, Modifier.isStatic(modifiers)
                && !Modifier.isPublic(modifiers) && !Modifier.isProtected(modifiers));
            check("nested class has few fields: " + nested, nested.getDeclaredFields().length <= 20);
        }
    }

    private static void check(String what, boolean holds) {
        if (!holds) {
            wrong++;
            System.out.println("not so: " + what);
        }
    }
}
