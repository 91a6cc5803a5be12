import java.lang.reflect.Field;
import java.lang.reflect.Method;
import java.lang.reflect.Modifier;
import java.util.Arrays;
import java.util.Set;
import java.util.TreeSet;

/** The document's public face, and rule 1 of LANGUAGE.md: nothing else can be seen from outside. */
public final class FaceTest {
    private static final String UNKNOWN = " IllegalArgumentException";
    private static final String OUTSIDE = " IndexOutOfBoundsException";
    private static final String NOT_NOW = " IllegalStateException";
    private static final String NO_ROOM = " UnsupportedOperationException";
    private static final String[] FACE = {
        "int house(int,int)" + OUTSIDE + NO_ROOM,
        "int agree(int,int,int,int,int,int)" + UNKNOWN + OUTSIDE + NOT_NOW + NO_ROOM,
        "int ask(int,int,int)" + UNKNOWN + OUTSIDE + NO_ROOM,
        "int message(int,int,int,int,int)" + UNKNOWN + OUTSIDE + NO_ROOM,
        "int seen(int,int)" + UNKNOWN + OUTSIDE,
        "int tick(int)" + OUTSIDE,
        "void cut(int,boolean)" + UNKNOWN + NOT_NOW,
        "void end(int)" + UNKNOWN + NOT_NOW,
        "int askAt(int,int)" + UNKNOWN,
        "int loanAt(int,int)" + UNKNOWN,
        "int cost(int)" + UNKNOWN,
        "int named(int)",
        "void hand(int,int)" + UNKNOWN + NOT_NOW,
        "int handed(int)" + UNKNOWN,
        "int count(int)" + UNKNOWN};

    public static void main(String[] args) {
        methodsAreThoseOfTheDocument();
        nothingElseIsVisible();
        Check.finish();
    }

    private static void methodsAreThoseOfTheDocument() {
        Set<String> due = new TreeSet<>(Arrays.asList(FACE));
        Set<String> got = new TreeSet<>();
        Set<String> publicNames = new TreeSet<>();
        for (Method method : AidRows.class.getDeclaredMethods()) {
            if (!Modifier.isPrivate(method.getModifiers())) {
                if (!Modifier.isPublic(method.getModifiers()) || Modifier.isStatic(method.getModifiers())) {
                    Check.fail("a method is not of the face: " + method);
                }
                got.add(faceOf(method));
                publicNames.add(method.getName());
            }
        }
        if (!got.equals(due)) {
            Check.fail("the face is " + got + ", due is " + due);
        }
        for (Method method : AidRows.class.getDeclaredMethods()) {
            if (Modifier.isPrivate(method.getModifiers()) && publicNames.contains(method.getName())) {
                Check.fail("a private method bears a public name: " + method.getName());
            }
        }
    }

    private static String faceOf(Method method) {
        StringBuilder text = new StringBuilder();
        for (Class<?> type : method.getParameterTypes()) {
            text.append(text.length() == 0 ? "" : ",").append(type.getName());
        }
        text.append(")");
        for (Class<?> type : method.getExceptionTypes()) {
            text.append(" ").append(type.getSimpleName());
        }
        return method.getReturnType().getName() + " " + method.getName() + "(" + text;
    }

    private static void nothingElseIsVisible() {
        for (Field field : AidRows.class.getDeclaredFields()) {
            if (!Modifier.isPrivate(field.getModifiers())) {
                Check.fail("a field can be seen: " + field.getName());
            }
        }
        int modifiers = AidRows.class.getModifiers();
        if (!Modifier.isPublic(modifiers) || !Modifier.isFinal(modifiers)) {
            Check.fail("the class is not public and final");
        }
        Check.same("constructors", AidRows.class.getDeclaredConstructors().length, 1);
        Check.same("public constructors", AidRows.class.getConstructors().length, 1);
        for (Class<?> inside : AidRows.class.getDeclaredClasses()) {
            if (!Modifier.isStatic(inside.getModifiers()) || Modifier.isPublic(inside.getModifiers())) {
                Check.fail("a class inside is not static and hidden: " + inside.getName());
            }
        }
    }
}
