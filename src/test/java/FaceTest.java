import java.lang.reflect.Constructor;
import java.lang.reflect.Field;
import java.lang.reflect.Method;
import java.lang.reflect.Modifier;
import java.util.ArrayList;
import java.util.Collections;
import java.util.List;

/** The public face is the document's, whole and nothing more. */
public final class FaceTest {
    private static final String OUT = "IndexOutOfBoundsException";
    private static final String BAD = "IllegalArgumentException";
    private static final String STATE = "IllegalStateException";

    private static final String[] FACE = {
        "int set(int,int) " + OUT + " " + BAD, "int lose(int) " + OUT, "int turn(int) " + BAD,
        "int drop(int) " + BAD, "int point(int,int) " + OUT + " " + BAD, "int copy()", "int fit()",
        "int append(int) " + BAD + " " + STATE, "int clearBuffer()", "int firstError()", "int load() " + BAD,
        "int keep(int) " + BAD, "int goBack(int) " + BAD + " " + STATE, "int undo() " + STATE,
        "int wheelOf(int,int) " + OUT + " " + BAD, "int trace(int,int) " + OUT + " " + BAD,
        "int pointOf(int,int) " + OUT + " " + BAD, "int count(int) " + BAD, "int findLost()",
        "int enough(int,int) " + BAD, "int ifTurned(int,int) " + OUT + " " + BAD, "int bestTurn()",
        "double mainShare()", "long digest()"};

    public static void main(String[] args) {
        testClass();
        testMethods();
        testFields();
        Due.end("FaceTest");
    }

    private static void testClass() {
        Due.is("the class", Modifier.PUBLIC | Modifier.FINAL, SquareGears.class.getModifiers());
        Constructor<?>[] constructors = SquareGears.class.getDeclaredConstructors();
        Due.is("constructors", 1, constructors.length);
        Due.is("the constructor", Modifier.PUBLIC, constructors[0].getModifiers());
        Due.is("its parameters", 0, constructors[0].getParameterCount());
        for (Class<?> inner : SquareGears.class.getDeclaredClasses()) {
            Due.isTrue(inner + " is static", Modifier.isStatic(inner.getModifiers()));
            Due.isTrue(inner + " is not public", !Modifier.isPublic(inner.getModifiers()));
        }
    }

    private static void testMethods() {
        List<String> found = new ArrayList<>();
        List<String> names = new ArrayList<>();
        for (Method method : SquareGears.class.getDeclaredMethods()) {
            if (Modifier.isPublic(method.getModifiers())) {
                found.add(told(method));
                names.add(method.getName());
            }
        }
        List<String> due = new ArrayList<>(List.of(FACE));
        Collections.sort(due);
        Collections.sort(found);
        Due.isTrue("the public methods " + found, found.equals(due));
        for (Method method : SquareGears.class.getDeclaredMethods()) {
            if (!Modifier.isPublic(method.getModifiers())) {
                Due.isTrue(method + " is private", Modifier.isPrivate(method.getModifiers()));
                Due.isTrue(method + " has a name of its own", !names.contains(method.getName()));
            }
        }
    }

    private static String told(Method method) {
        StringBuilder told = new StringBuilder();
        told.append(method.getReturnType().getSimpleName()).append(' ').append(method.getName()).append('(');
        String between = "";
        for (Class<?> parameter : method.getParameterTypes()) {
            told.append(between).append(parameter.getSimpleName());
            between = ",";
        }
        told.append(')');
        for (Class<?> thrown : method.getExceptionTypes()) {
            told.append(' ').append(thrown.getSimpleName());
        }
        return told.toString();
    }

    private static void testFields() {
        for (Field field : SquareGears.class.getDeclaredFields()) {
            int kind = field.getModifiers();
            if (field.getName().equals("NONE")) {
                Due.is("NONE", Modifier.PUBLIC | Modifier.STATIC | Modifier.FINAL, kind);
            } else {
                Due.isTrue(field + " is private", Modifier.isPrivate(kind));
                Due.isTrue(field + " is final, if static", !Modifier.isStatic(kind) || Modifier.isFinal(kind));
            }
        }
    }
}
