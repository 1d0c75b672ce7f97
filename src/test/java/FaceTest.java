import java.lang.reflect.Constructor;
import java.lang.reflect.Field;
import java.lang.reflect.Method;
import java.lang.reflect.Modifier;
import java.util.ArrayList;
import java.util.Arrays;
import java.util.List;
import java.util.TreeSet;

/** The class shows the document's face, and nothing else of it can be seen (rule 1). */
public final class FaceTest {
    private static final String[] FACE = {
        "int thing(int, int, int, int, int)",
        "int hours(int, int, int, int)",
        "int holiday(int)",
        "int book(int, int, int, int)",
        "int recurring(int, int, int)",
        "int cancel(int, int)",
        "int checkIn(int, int)",
        "int edit(int, int, int, int)",
        "int equip(int, int)",
        "int wish(int, int, int, int, int)",
        "int tick(int)",
        "boolean clash(int, int)",
        "int booking(int, int)",
        "int list(int, int)",
        "int person(int, int)",
        "int used(int)",
    };

    private static final Due due = new Due();

    public static void main(String[] args) {
        due.promise("the face");
        theClass();
        theConstructor();
        theMethods();
        theFields();
        theClassesInside();
        due.end();
    }

    private static void theClass() {
        int modifiers = BookingRows.class.getModifiers();
        due.is("public", true, Modifier.isPublic(modifiers));
        due.is("final", true, Modifier.isFinal(modifiers));
        due.is("without a package", true, BookingRows.class.getPackageName().isEmpty());
    }

    private static void theConstructor() {
        Constructor<?>[] constructors = BookingRows.class.getDeclaredConstructors();
        due.is("constructors", 1, constructors.length);
        due.is("its parameters", 0, constructors[0].getParameterCount());
        due.is("public", true, Modifier.isPublic(constructors[0].getModifiers()));
    }

    private static void theMethods() {
        TreeSet<String> shown = new TreeSet<>();
        TreeSet<String> shownNames = new TreeSet<>();
        List<String> privateNames = new ArrayList<>();
        for (Method method : BookingRows.class.getDeclaredMethods()) {
            if (Modifier.isPrivate(method.getModifiers())) {
                privateNames.add(method.getName());
            } else {
                shown.add(textOf(method));
                shownNames.add(method.getName());
            }
        }
        due.is("shown are " + shown, true, shown.equals(new TreeSet<>(Arrays.asList(FACE))));
        for (String name : privateNames) {
            due.is("a private method bears a public one's name: " + name, false,
                    shownNames.contains(name));
        }
    }

    private static String textOf(Method method) {
        List<String> parameters = new ArrayList<>();
        for (Class<?> parameter : method.getParameterTypes()) {
            parameters.add(parameter.getName());
        }
        boolean asInFace = method.getModifiers() == Modifier.PUBLIC;
        return (asInFace ? "" : "not only public: ") + method.getReturnType().getName() + " "
                + method.getName() + "(" + String.join(", ", parameters) + ")";
    }

    private static void theFields() {
        for (Field field : BookingRows.class.getDeclaredFields()) {
            int modifiers = field.getModifiers();
            boolean isNone = field.getName().equals("NONE");
            due.is(field + " is the constant or private", true,
                    isNone ? Modifier.isPublic(modifiers) : Modifier.isPrivate(modifiers));
            due.is(field + " is final if static", true,
                    Modifier.isFinal(modifiers) || !Modifier.isStatic(modifiers));
        }
        due.is("NONE", -1, BookingRows.NONE);
    }

    private static void theClassesInside() {
        for (Class<?> inside : BookingRows.class.getDeclaredClasses()) {
            int modifiers = inside.getModifiers();
            due.is(inside + " is static", true, Modifier.isStatic(modifiers));
            due.is(inside + " is not shown", false,
                    Modifier.isPublic(modifiers) || Modifier.isProtected(modifiers));
            due.is(inside + " has few fields", true, inside.getDeclaredFields().length <= 20);
        }
        due.is("few classes", true, BookingRows.class.getDeclaredClasses().length <= 11);
    }
}
