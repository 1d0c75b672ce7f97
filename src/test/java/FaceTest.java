import java.io.IOException;
import java.lang.reflect.Constructor;
import java.lang.reflect.Field;
import java.lang.reflect.Method;
import java.lang.reflect.Modifier;
import java.nio.file.Files;
import java.nio.file.Path;
import java.util.ArrayList;
import java.util.List;
import java.util.TreeSet;
import java.util.regex.Matcher;
import java.util.regex.Pattern;

/** The class shows the document's face, and nothing else of it can be seen (rule 1). */
public final class FaceTest {
    private static final Pattern METHOD = Pattern.compile("public (\\w+) (\\w+)\\((.*)\\)");
    private static final int METHODS = 16;

    private static final Due due = new Due();

    public static void main(String[] args) throws IOException {
        due.promise("the face");
        theClass();
        theWords();
        theConstructor();
        theMethods();
        theFields();
        theClassesInside();
        due.end();
    }

    private static void theClass() {
        int modifiers = BookingRows.class.getModifiers();
        due.is("public", true, Modifier.isPublic(modifiers));
        due.is("final", true, Modifier.isFinal(modifiers));
        due.is("without a package", true, BookingRows.class.getPackageName().isEmpty());
    }

    /** The names of parameters, too, are those of the document; only the source has them. */
    private static void theWords() throws IOException {
        String source = Files.readString(Path.of("src/main/java/BookingRows.java"));
        for (String member : Document.face()) {
            due.is(member, true, source.contains("\n    " + member + " {\n")
                    || source.contains("\n    " + member + ";\n"));
        }
    }

    private static void theConstructor() {
        Constructor<?>[] constructors = BookingRows.class.getDeclaredConstructors();
        due.is("constructors", 1, constructors.length);
        due.is("its parameters", 0, constructors[0].getParameterCount());
        due.is("public", true, Modifier.isPublic(constructors[0].getModifiers()));
    }

    /** The methods of the document's face, without the names of their parameters. */
    private static TreeSet<String> face() throws IOException {
        TreeSet<String> methods = new TreeSet<>();
        for (String member : Document.face()) {
            Matcher method = METHOD.matcher(member);
            if (method.matches()) {
                methods.add(method.group(1) + " " + method.group(2) + "("
                        + method.group(3).replaceAll(" \\w+(?=,|$)", "") + ")");
            }
        }
        return methods;
    }

    private static void theMethods() throws IOException {
        TreeSet<String> shown = new TreeSet<>();
        TreeSet<String> shownNames = new TreeSet<>();
        List<String> privateNames = new ArrayList<>();
        for (Method method : BookingRows.class.getDeclaredMethods()) {
            if (Modifier.isPrivate(method.getModifiers())) {
                privateNames.add(method.getName());
            } else {
                shown.add(textOf(method));
                shownNames.add(method.getName());
            }
        }
        due.is("methods of the face", METHODS, face().size());
        due.is("shown are " + shown, true, shown.equals(face()));
        for (String name : privateNames) {
            due.is("a private method bears a public one's name: " + name, false,
                    shownNames.contains(name));
        }
    }

    private static String textOf(Method method) {
        List<String> parameters = new ArrayList<>();
        for (Class<?> parameter : method.getParameterTypes()) {
            parameters.add(parameter.getName());
        }
        boolean asInFace = method.getModifiers() == Modifier.PUBLIC;
        return (asInFace ? "" : "not only public: ") + method.getReturnType().getName() + " "
                + method.getName() + "(" + String.join(", ", parameters) + ")";
    }

    private static void theFields() {
        for (Field field : BookingRows.class.getDeclaredFields()) {
            int modifiers = field.getModifiers();
            boolean isNone = field.getName().equals("NONE");
            due.is(field + " is the constant or private", true,
                    isNone ? Modifier.isPublic(modifiers) : Modifier.isPrivate(modifiers));
            due.is(field + " is final if static", true,
                    Modifier.isFinal(modifiers) || !Modifier.isStatic(modifiers));
        }
        due.is("NONE", -1, BookingRows.NONE);
    }

    private static void theClassesInside() {
        for (Class<?> inside : BookingRows.class.getDeclaredClasses()) {
            int modifiers = inside.getModifiers();
            due.is(inside + " is static", true, Modifier.isStatic(modifiers));
            due.is(inside + " is not shown", false,
                    Modifier.isPublic(modifiers) || Modifier.isProtected(modifiers));
            due.is(inside + " has few fields", true, inside.getDeclaredFields().length <= 20);
        }
        due.is("few classes", true, BookingRows.class.getDeclaredClasses().length <= 11);
    }
}
