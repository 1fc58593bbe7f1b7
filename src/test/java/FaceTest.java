import java.lang.reflect.Constructor;
import java.lang.reflect.Field;
import java.lang.reflect.Method;
import java.lang.reflect.Modifier;
import java.util.List;
import java.util.TreeSet;

/** The public face, promise by promise, and nothing beside it (rules 1 and 5 of LANGUAGE.md). */
final class FaceTest {

    private static final String INDEX = " throws IndexOutOfBoundsException";
    private static final String ARGUMENT = " throws IllegalArgumentException";
    private static final String STATE = " throws IllegalStateException";
    private static final String INDEX_ARGUMENT =
            " throws IndexOutOfBoundsException, IllegalArgumentException";
    private static final String ARGUMENT_STATE =
            " throws IllegalArgumentException, IllegalStateException";

    private static final List<String> FACE = List.of(
            "void table(int, int, int)" + INDEX_ARGUMENT + ", IllegalStateException",
            "int x(int, int)" + ARGUMENT, "int y(int)" + ARGUMENT,
            "int latitudeAt(int)" + ARGUMENT_STATE, "long area(int, int, int, int)" + ARGUMENT,
            "long areaByCells(int, int, int, int)" + ARGUMENT,
            "int truth(int, int)" + INDEX_ARGUMENT, "boolean keepsAreas()", "int widest()",
            "float stretch(int)" + INDEX, "int apart(int, int)" + ARGUMENT,
            "int ringWay(int, int, int)" + ARGUMENT, "int zones(int)" + ARGUMENT,
            "int zone(int)" + ARGUMENT, "int seams(int, int)" + ARGUMENT,
            "int dateLine(int, int)" + ARGUMENT, "void sheet(int, int)" + ARGUMENT,
            "int foldColumns(int)" + STATE, "int foldRows(int)" + STATE, "int unfold()",
            "int panel(int, int)" + ARGUMENT, "int placeX(int, int)" + INDEX,
            "int placeY(int, int)" + INDEX, "int above(int, int)" + INDEX,
            "boolean isUp(int, int)" + INDEX, "int thickness()", "int readable()");

    private FaceTest() {
    }

    static void run() {
        Check.noPromise();
        Check.isTrue("the class is public", Modifier.isPublic(AtlasFolder.class.getModifiers()));
        Check.isTrue("the class is final", Modifier.isFinal(AtlasFolder.class.getModifiers()));
        constructorsAreTheDocuments();
        methodsAreTheDocuments();
        fieldsArePrivate();
        classesInsideAreStatic();
    }

    private static void constructorsAreTheDocuments() {
        Constructor<?>[] all = AtlasFolder.class.getDeclaredConstructors();
        Check.due("constructors", 1, all.length);
        Check.due("its parameters", 0, all[0].getParameterCount());
        Check.due("its exceptions", 0, all[0].getExceptionTypes().length);
        Check.isTrue("it is public", Modifier.isPublic(all[0].getModifiers()));
    }

    private static void methodsAreTheDocuments() {
        TreeSet<String> open = new TreeSet<>();
        TreeSet<String> names = new TreeSet<>();
        for (Method method : AtlasFolder.class.getDeclaredMethods()) {
            if (!Modifier.isPrivate(method.getModifiers())) {
                open.add(faceOf(method));
                names.add(method.getName());
                Check.due(method + " is public alone", Modifier.PUBLIC, method.getModifiers());
            }
        }
        Check.due("the methods", new TreeSet<>(FACE), open);
        noPrivateMethodBearsAPublicName(names);
    }

    private static void noPrivateMethodBearsAPublicName(TreeSet<String> names) {
        for (Method method : AtlasFolder.class.getDeclaredMethods()) {
            if (Modifier.isPrivate(method.getModifiers())) {
                Check.isTrue(method + " has a name of its own", !names.contains(method.getName()));
            }
        }
        for (Class<?> inside : AtlasFolder.class.getDeclaredClasses()) {
            for (Method method : inside.getDeclaredMethods()) {
                Check.isTrue(method + " has a name of its own", !names.contains(method.getName()));
            }
        }
    }

    private static String faceOf(Method method) {
        String thrown = namesOf(method.getExceptionTypes());
        return method.getReturnType() + " " + method.getName()
                + "(" + namesOf(method.getParameterTypes()) + ")"
                + (thrown.isEmpty() ? "" : " throws " + thrown);
    }

    private static String namesOf(Class<?>[] types) {
        StringBuilder names = new StringBuilder();
        for (Class<?> type : types) {
            names.append(names.length() == 0 ? "" : ", ").append(type.getSimpleName());
        }
        return names.toString();
    }

    private static void fieldsArePrivate() {
        for (Field field : AtlasFolder.class.getDeclaredFields()) {
            Check.isTrue(field + " is private", Modifier.isPrivate(field.getModifiers()));
            Check.isTrue(field + " is final", Modifier.isFinal(field.getModifiers()));
        }
    }

    private static void classesInsideAreStatic() {
        for (Class<?> inside : AtlasFolder.class.getDeclaredClasses()) {
            Check.isTrue(inside + " is static", Modifier.isStatic(inside.getModifiers()));
            Check.isTrue(inside + " is not public", !Modifier.isPublic(inside.getModifiers()));
        }
    }
}
