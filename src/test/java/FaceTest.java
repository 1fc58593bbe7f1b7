import java.lang.reflect.Constructor;
import java.lang.reflect.Field;
import java.lang.reflect.Method;
import java.lang.reflect.Modifier;
import java.util.Arrays;
import java.util.List;
import java.util.TreeSet;

/** The public face, promise by promise, and nothing beside it (rules 1 and 5 of LANGUAGE.md). */
final class FaceTest {

    private static final List<String> FACE = List.of(
            "void table(int, int, int)", "int x(int, int)", "int y(int)", "int latitudeAt(int)",
            "long area(int, int, int, int)", "long areaByCells(int, int, int, int)",
            "int truth(int, int)", "boolean keepsAreas()", "int widest()", "float stretch(int)",
            "int apart(int, int)", "int ringWay(int, int, int)", "int zones(int)", "int zone(int)",
            "int seams(int, int)", "int dateLine(int, int)", "void sheet(int, int)",
            "int foldColumns(int)", "int foldRows(int)", "int unfold()", "int panel(int, int)",
            "int placeX(int, int)", "int placeY(int, int)", "int above(int, int)",
            "boolean isUp(int, int)", "int thickness()", "int readable()");

    private FaceTest() {
    }

    static void run() {
        Check.isTrue("the class is public", Modifier.isPublic(AtlasFolder.class.getModifiers()));
        Check.isTrue("the class is final", Modifier.isFinal(AtlasFolder.class.getModifiers()));
        constructorsAreTheDocuments();
        methodsAreTheDocuments();
        fieldsArePrivate();
        classesInsideAreStatic();
    }

    private static void constructorsAreTheDocuments() {
        Constructor<?>[] all = AtlasFolder.class.getDeclaredConstructors();
        Check.due("constructors", 1, all.length);
        Check.due("its parameters", 0, all[0].getParameterCount());
        Check.isTrue("it is public", Modifier.isPublic(all[0].getModifiers()));
    }

    private static void methodsAreTheDocuments() {
        TreeSet<String> open = new TreeSet<>();
        TreeSet<String> names = new TreeSet<>();
        for (Method method : AtlasFolder.class.getDeclaredMethods()) {
            if (!Modifier.isPrivate(method.getModifiers())) {
                open.add(faceOf(method));
                names.add(method.getName());
                Check.due(method + " is public alone", Modifier.PUBLIC, method.getModifiers());
            }
        }
        Check.due("the methods", new TreeSet<>(FACE), open);
        noPrivateMethodBearsAPublicName(names);
    }

    private static void noPrivateMethodBearsAPublicName(TreeSet<String> names) {
        for (Method method : AtlasFolder.class.getDeclaredMethods()) {
            if (Modifier.isPrivate(method.getModifiers())) {
                Check.isTrue(method + " has a name of its own", !names.contains(method.getName()));
            }
        }
        for (Class<?> inside : AtlasFolder.class.getDeclaredClasses()) {
            for (Method method : inside.getDeclaredMethods()) {
                Check.isTrue(method + " has a name of its own", !names.contains(method.getName()));
            }
        }
    }

    private static String faceOf(Method method) {
        String parameters = Arrays.toString(method.getParameterTypes());
        return method.getReturnType() + " " + method.getName()
                + "(" + parameters.substring(1, parameters.length() - 1) + ")";
    }

    private static void fieldsArePrivate() {
        for (Field field : AtlasFolder.class.getDeclaredFields()) {
            Check.isTrue(field + " is private", Modifier.isPrivate(field.getModifiers()));
            Check.isTrue(field + " is final", Modifier.isFinal(field.getModifiers()));
        }
    }

    private static void classesInsideAreStatic() {
        for (Class<?> inside : AtlasFolder.class.getDeclaredClasses()) {
            Check.isTrue(inside + " is static", Modifier.isStatic(inside.getModifiers()));
            Check.isTrue(inside + " is not public", !Modifier.isPublic(inside.getModifiers()));
        }
    }
}
