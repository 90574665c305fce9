import java.lang.reflect.Constructor;
import java.lang.reflect.Field;
import java.lang.reflect.Method;
import java.lang.reflect.Modifier;
import java.util.TreeSet;

/** The public face of the class is that of the document, and no more. */
public final class FaceTest {
    private static final String[] FACE = {
        "int set(int,int,int) IndexOutOfBoundsException IllegalArgumentException",
        "int row(int,int,int) IndexOutOfBoundsException IllegalArgumentException",
        "int like(int,int) IndexOutOfBoundsException",
        "int setColours(int) IllegalArgumentException",
        "int setCarry(int) IndexOutOfBoundsException",
        "boolean setTurning(boolean)",
        "boolean setPressing(boolean)",
        "int wind(int,int) IndexOutOfBoundsException IllegalArgumentException",
        "int weave() IllegalStateException",
        "int shade(int,int) IndexOutOfBoundsException",
        "int palette(int) IndexOutOfBoundsException",
        "int cell(int,int) IndexOutOfBoundsException IllegalStateException",
        "int run(int,int,int) IndexOutOfBoundsException IllegalStateException",
        "int knots(int) IndexOutOfBoundsException IllegalStateException",
        "int thread(int,int) IndexOutOfBoundsException",
        "int count(int) IndexOutOfBoundsException",
        "int would(int,int) IllegalArgumentException IndexOutOfBoundsException",
        "int advise(int) IllegalArgumentException",
        "double mean()",
        "long digest()",
    };

    public static void main(String[] args) {
        methodsAreThoseOfTheDocument();
        nothingElseIsSeen();
        Checks.end();
    }

    private static void methodsAreThoseOfTheDocument() {
        TreeSet<String> due = new TreeSet<>();
        for (String method : FACE) {
            due.add(method);
        }
        TreeSet<String> got = new TreeSet<>();
        TreeSet<String> names = new TreeSet<>();
        for (Method method : TapestryRuns.class.getDeclaredMethods()) {
            if (!Modifier.isPrivate(method.getModifiers())) {
                got.add(faceOf(method));
                Checks.yes(method + " is public, and of the object",
                        method.getModifiers() == Modifier.PUBLIC);
                names.add(method.getName());
            }
        }
        Checks.same("the face", got.toString(), due.toString());
        for (Method method : TapestryRuns.class.getDeclaredMethods()) {
            Checks.yes(method + " bears no name of a public one",
                    Modifier.isPublic(method.getModifiers()) || !names.contains(method.getName()));
        }
    }

    private static String faceOf(Method method) {
        StringBuilder text = new StringBuilder();
        text.append(method.getReturnType().getSimpleName()).append(' ').append(method.getName()).append('(');
        String comma = "";
        for (Class<?> type : method.getParameterTypes()) {
            text.append(comma).append(type.getSimpleName());
            comma = ",";
        }
        text.append(')');
        for (Class<?> type : method.getExceptionTypes()) {
            text.append(' ').append(type.getSimpleName());
        }
        return text.toString();
    }

    private static void nothingElseIsSeen() {
        Checks.yes("public and final", TapestryRuns.class.getModifiers() == (Modifier.PUBLIC | Modifier.FINAL));
        Checks.yes("no class above", TapestryRuns.class.getSuperclass() == Object.class);
        Checks.same("interfaces", TapestryRuns.class.getInterfaces().length, 0);
        Constructor<?>[] constructors = TapestryRuns.class.getDeclaredConstructors();
        Checks.same("constructors", constructors.length, 1);
        Checks.same("its parameters", constructors[0].getParameterCount(), 0);
        Checks.yes("it is public", Modifier.isPublic(constructors[0].getModifiers()));
        for (Field field : TapestryRuns.class.getDeclaredFields()) {
            Checks.yes(field + " is private", Modifier.isPrivate(field.getModifiers()));
        }
    }
}
