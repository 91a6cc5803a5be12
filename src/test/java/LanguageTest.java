import java.io.IOException;
import java.lang.reflect.Field;
import java.lang.reflect.Method;
import java.lang.reflect.Modifier;
import java.nio.file.Files;
import java.nio.file.Path;
import java.util.ArrayList;
import java.util.List;
import java.util.Set;
import java.util.regex.Matcher;
import java.util.regex.Pattern;

/** What can be seen of the rules of LANGUAGE.md in the source and in the compiled class; rule 1 is in FaceTest. */
public final class LanguageTest {
    private static final Path MAIN = Path.of("src/main/java/AidRows.java");
    private static final Pattern COMMENT_OR_TEXT =
            Pattern.compile("/\\*.*?\\*/|//[^\n]*|\"(\\\\.|[^\"\\\\])*\"", Pattern.DOTALL);
    private static final String[] RULED_OUT = {
        "->", "::", "\\bfinally\\b", "\\bsynchronized\\b", "\\bassert\\b", "\\bcatch\\b", "\\binstanceof\\b",
        "\\bpackage\\b", "\\bvolatile\\b", "\\btransient\\b", "\\bnative\\b", "\\bThread\\b", "\\bObject\\b", "\\bvar\\b",
        "\\bdouble\\b", "\\bfloat\\b", "static\\s*\\{", "\\w+Exact\\b", "\\bjava\\.(?!util\\.Arrays;)",
        "\\bSystem\\.(?!arraycopy\\b)", "\\bMath\\.(?!min\\b|max\\b|abs\\b)", "\\bArrays\\.(?!fill\\b|copyOf)",
        "\\bthrow\\b(?! new (IllegalArgument|IndexOutOfBounds|IllegalState|UnsupportedOperation)Exception\\(\"\"\\);)"};
    private static final Set<Class<?>> CONSTANTS = Set.of(int.class, long.class, boolean.class, char.class, String.class);
    private static final int MOST_PARAMETERS = 7;
    private static final int MOST_CLASSES = 12;
    private static final int MOST_FIELDS = 20;
    private static final int MOST_LINES = 60;

    public static void main(String[] args) throws IOException {
        String source = bare(Files.readString(MAIN));
        nothingRuledOutIsWritten(source);
        methodsAreShort(source);
        List<Class<?>> classes = new ArrayList<>(List.of(AidRows.class.getDeclaredClasses()));
        classes.add(AidRows.class);
        if (classes.size() > MOST_CLASSES) {
            Check.fail("there are " + classes.size() + " classes");
        }
        for (Class<?> type : classes) {
            fieldsAreFewAndStaticOnesConstant(type);
            parametersAreFew(type);
        }
        Check.finish();
    }

    /** Comments and the words of texts may hold anything. */
    private static String bare(String source) {
        return COMMENT_OR_TEXT.matcher(source).replaceAll(part -> part.group().startsWith("\"") ? "\"\"" : " ");
    }

    private static void nothingRuledOutIsWritten(String source) {
        for (String form : RULED_OUT) {
            Matcher found = Pattern.compile(form).matcher(source);
            if (found.find()) {
                Check.fail("the source has '" + found.group() + "', which " + form + " rules out");
            }
        }
    }

    /** A method ends with the first line that closes a brace at the depth at which its first line stands. */
    private static void methodsAreShort(String source) {
        Matcher method = Pattern.compile("^( {4}| {8})(?! |\\})[^\n=;]*\\([^;{]*\\{\n(.*?)^\\1\\}$",
                Pattern.MULTILINE | Pattern.DOTALL).matcher(source);
        int found = 0;
        while (method.find()) {
            found++;
            long lines = method.group().lines().count();
            if (lines > MOST_LINES) {
                Check.fail("a method has " + lines + " lines: " + method.group().lines().findFirst().orElse(""));
            }
        }
        if (found < AidRows.class.getDeclaredMethods().length) {
            Check.fail("only " + found + " methods were looked at");
        }
    }

    private static void fieldsAreFewAndStaticOnesConstant(Class<?> type) {
        int fields = 0;
        for (Field field : type.getDeclaredFields()) {
            if (!Modifier.isStatic(field.getModifiers())) {
                fields++;
            } else if (!Modifier.isFinal(field.getModifiers()) || !CONSTANTS.contains(field.getType())) {
                Check.fail("a static field is no constant: " + field);
            }
        }
        if (fields > MOST_FIELDS) {
            Check.fail(type + " has " + fields + " fields");
        }
    }

    private static void parametersAreFew(Class<?> type) {
        for (Method method : type.getDeclaredMethods()) {
            if (method.getParameterCount() > MOST_PARAMETERS) {
                Check.fail("more than " + MOST_PARAMETERS + " parameters: " + method);
            }
        }
    }
}
