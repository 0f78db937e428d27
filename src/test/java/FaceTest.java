import java.lang.reflect.Constructor;
import java.lang.reflect.Field;
import java.lang.reflect.Method;
import java.lang.reflect.Modifier;
import java.util.Arrays;
import java.util.HashSet;
import java.util.Set;
import java.util.TreeSet;

/** The face is the document's, and nothing else can be seen from outside. */
public final class FaceTest {
    private static final String[] FACE = {
        "void begin(int)", "int apply(int,int)", "int drop()", "int select()", "int block(int,int,int)",
        "void otherwise()", "int end()", "void leap(int)", "int leapIf(int)", "void table(int,int)",
        "void back()", "void never()", "int top(int)", "int frame(int,int)", "int count(int)"};

    public static void main(String[] args) {
        Check check = new Check();
        check.part("the face");
        check.due("the class", Modifier.toString(TypeStack.class.getModifiers()), "public final");
        check.due("public methods", seen().toString(), new TreeSet<>(Arrays.asList(FACE)).toString());
        check.due("constructors", constructors(), "[public TypeStack()]");
        check.due("fields that are not private", openFields().toString(), "[]");
        check.due("static fields that are not final", loose().toString(), "[]");
        check.due("private methods with a public name", doubled().toString(), "[]");
        check.finish();
    }

    private static Set<String> seen() {
        Set<String> told = new TreeSet<>();
        for (Method method : TypeStack.class.getDeclaredMethods()) {
            if (!Modifier.isPrivate(method.getModifiers())) {
                String opened = Modifier.isPublic(method.getModifiers()) ? "" : "not public: ";
                told.add(opened + method.getReturnType() + " " + method.getName() + parameters(method));
            }
        }
        return told;
    }

    private static String parameters(Method method) {
        return Arrays.toString(method.getParameterTypes())
                .replace('[', '(').replace(']', ')').replace(" ", "");
    }

    private static String constructors() {
        Constructor<?>[] all = TypeStack.class.getDeclaredConstructors();
        return Arrays.toString(all);
    }

    private static Set<String> openFields() {
        Set<String> told = new TreeSet<>();
        for (Field field : TypeStack.class.getDeclaredFields()) {
            if (!Modifier.isPrivate(field.getModifiers())) {
                told.add(field.getName());
            }
        }
        return told;
    }

    private static Set<String> loose() {
        Set<String> told = new TreeSet<>();
        for (Field field : TypeStack.class.getDeclaredFields()) {
            int modifiers = field.getModifiers();
            if (Modifier.isStatic(modifiers) && !Modifier.isFinal(modifiers)) {
                told.add(field.getName());
            }
        }
        return told;
    }

    private static Set<String> doubled() {
        Set<String> open = new HashSet<>();
        for (Method method : TypeStack.class.getMethods()) {
            open.add(method.getName());
        }
        Set<String> told = new TreeSet<>();
        for (Method method : TypeStack.class.getDeclaredMethods()) {
            if (Modifier.isPrivate(method.getModifiers()) && open.contains(method.getName())) {
                told.add(method.getName());
            }
        }
        return told;
    }
}
