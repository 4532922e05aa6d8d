import java.lang.reflect.Constructor;
import java.lang.reflect.Executable;
import java.lang.reflect.Field;
import java.lang.reflect.Method;
import java.lang.reflect.Modifier;
import java.util.ArrayList;
import java.util.Arrays;
import java.util.List;

/** "The public face": what the class shows, and nothing else. */
public final class FaceTest {
    private static final Check CHECK = new Check("FaceTest");
    private static final String BOUNDS = "IndexOutOfBoundsException";
    private static final String ARGUMENT = "IllegalArgumentException";
    private static final String STATE = "IllegalStateException";

    // What it gives, its name, how many ints it takes, and what it says that it throws.
    private static final String[][] FACE = {
        {"int", "procedure", "2", BOUNDS, ARGUMENT, STATE},
        {"int", "parameter", "3", BOUNDS, ARGUMENT, STATE},
        {"int", "variable", "4", BOUNDS, ARGUMENT, STATE},
        {"int", "ofName", "3", BOUNDS, ARGUMENT},
        {"int", "ofProcedure", "2", BOUNDS, ARGUMENT},
        {"int", "node", "4", ARGUMENT, STATE},
        {"int", "body", "2", BOUNDS, ARGUMENT, STATE},
        {"int", "ofNode", "2", BOUNDS, ARGUMENT},
        {"int", "fault", "2", BOUNDS, ARGUMENT},
        {"int", "passes", "1", ARGUMENT},
        {"int", "code", "3", BOUNDS, ARGUMENT},
        {"int", "limits", "2", ARGUMENT},
        {"int", "run", "0", STATE},
        {"int", "ofRun", "1", ARGUMENT},
        {"int", "printed", "2", BOUNDS, ARGUMENT},
        {"double", "meanPrinted", "0"},
        {"int", "many", "1", ARGUMENT},
        {"int", "wouldRun", "3", ARGUMENT, STATE},
        {"int", "with", "2", ARGUMENT, STATE},
        {"int", "hiddenBy", "2", BOUNDS, ARGUMENT},
        {"long", "digest", "0"}};

    public static void main(String[] args) {
        CHECK.says("The public face");
        CHECK.due("modifiers of the class", StaticLink.class.getModifiers(),
            Modifier.PUBLIC | Modifier.FINAL);
        CHECK.due("what it is made of", StaticLink.class.getSuperclass().getSimpleName(),
            "Object");
        CHECK.due("interfaces", StaticLink.class.getInterfaces().length, 0);
        constructor();
        methods();
        fields();
        classesInside();
        CHECK.end();
    }

    private static void constructor() {
        Constructor<?>[] all = StaticLink.class.getDeclaredConstructors();
        CHECK.due("constructors", all.length, 1);
        CHECK.due("its modifiers", all[0].getModifiers(), Modifier.PUBLIC);
        CHECK.due("its parameters", all[0].getParameterCount(), 0);
        CHECK.due("its exceptions", all[0].getExceptionTypes().length, 0);
    }

    private static String told(Executable method, String gives) {
        List<String> all = new ArrayList<>();
        all.add(gives);
        all.add(method.getName());
        for (Class<?> type : method.getParameterTypes()) {
            CHECK.due("a parameter of " + method.getName(), type.getSimpleName(), "int");
        }
        all.add(method.getParameterCount() + "");
        for (Class<?> type : method.getExceptionTypes()) {
            all.add(type.getSimpleName());
        }
        return all.toString();
    }

    private static void methods() {
        List<String> due = new ArrayList<>();
        for (String[] method : FACE) {
            due.add(Arrays.asList(method).toString());
        }
        List<String> hidden = new ArrayList<>();
        for (Method method : StaticLink.class.getDeclaredMethods()) {
            if (method.isSynthetic()) {
                continue;
            }
            if (Modifier.isPrivate(method.getModifiers())) {
                hidden.add(method.getName());
                continue;
            }
            CHECK.due("modifiers of " + method.getName(), method.getModifiers(),
                Modifier.PUBLIC);
            String told = told(method, method.getReturnType().getSimpleName());
            CHECK.due("it is in the document: " + told, due.remove(told) ? 1 : 0, 1);
        }
        CHECK.due("what the class has not", due.toString(), "[]");
        for (String[] method : FACE) {
            CHECK.due("a private method has the name of a public one",
                hidden.contains(method[1]) ? 1 : 0, 0);
        }
    }

    private static void fields() {
        for (Field field : StaticLink.class.getDeclaredFields()) {
            CHECK.due("the field " + field.getName() + " is private",
                Modifier.isPrivate(field.getModifiers()) ? 1 : 0, 1);
            boolean isStatic = Modifier.isStatic(field.getModifiers());
            CHECK.due("the static field " + field.getName() + " is final",
                !isStatic || Modifier.isFinal(field.getModifiers()) ? 1 : 0, 1);
        }
    }

    private static void classesInside() {
        for (Class<?> inside : StaticLink.class.getDeclaredClasses()) {
            int modifiers = inside.getModifiers();
            CHECK.due(inside.getSimpleName() + " is static",
                Modifier.isStatic(modifiers) ? 1 : 0, 1);
            CHECK.due(inside.getSimpleName() + " is not shown",
                Modifier.isPublic(modifiers) || Modifier.isProtected(modifiers) ? 1 : 0, 0);
        }
    }
}
