import java.io.IOException;
import java.lang.reflect.Constructor;
import java.lang.reflect.Executable;
import java.lang.reflect.Field;
import java.lang.reflect.Method;
import java.lang.reflect.Modifier;
import java.nio.file.Files;
import java.nio.file.Path;
import java.util.ArrayList;
import java.util.Arrays;
import java.util.HashSet;
import java.util.List;
import java.util.Set;
import java.util.regex.Matcher;
import java.util.regex.Pattern;

/** The program keeps to those rules of ../shared/LANGUAGE.md that its text and its classes show; a fault names the rule. */
public final class LanguageTest {
    private static final Path PROGRAM = Path.of("src", "main", "java", "GripInspector.java");
    private static final String THROWN = "IllegalStateException|IllegalArgumentException|IndexOutOfBoundsException"
        + "|ArithmeticException|UnsupportedOperationException|NoSuchElementException|RuntimeException";
    private static final Set<String> LIBRARY = new HashSet<>(Arrays.asList(("String StringBuilder Integer Long Math System "
        + "Arrays ArrayList List Iterator Iterable Comparable Override " + THROWN.replace('|', ' ')).split(" ")));
    private static final List<Class<?>> CLASSES = new ArrayList<>();

    public static void main(String[] args) throws IOException {
        String source = Files.readString(PROGRAM);
        CLASSES.add(GripInspector.class);
        CLASSES.addAll(Arrays.asList(GripInspector.class.getDeclaredClasses()));
        String code = withoutComments(source);
        String bare = code.replaceAll("\"[^\"]*\"", "\"\"").replaceAll("'(\\\\.|[^'\\\\])'", "' '");
        words(source, bare);
        names(bare);
        exceptions(code);
        classes();
        sizes(source);
        Check.end();
    }

    /** No text of the program holds the begin of a comment. */
    private static String withoutComments(String source) {
        return source.replaceAll("(?s)/\\*.*?\\*/", "").replaceAll("//[^\\n]*", "");
    }

    private static void none(String rule, String code, String pattern) {
        Matcher found = Pattern.compile(pattern).matcher(code);
        Check.same(rule, found.find() ? found.group() : "", "");
    }

    private static void words(String source, String bare) {
        none("rule 0, a package", bare, "\\bpackage\\b");
        none("rule 2, a lambda or a method reference", bare, "->|::");
        none("rule 4, a sign above 127", source, "[^\\x00-\\x7f]");
        none("rule 4, a function that ends in Exact", bare, "\\w+Exact\\b");
        none("rule 4, another part of System", bare, "\\bSystem\\.(?!arraycopy\\b)\\w+");
        none("rule 4, an import", bare, "\\bimport (?!java\\.util\\.(Arrays|ArrayList|List|Iterator|NoSuchElementException);)");
        none("rule 6, what is not allowed", bare, "\\b(finally|synchronized|assert|try \\()");
        none("rule 9, a loop without a bound", bare, "while \\(true\\)|for \\([^;]*;\\s*;");
        none("rule 10, a text joined by +", bare, "\"\" *\\+|\\+ *\"\"");
    }

    /** A name with a great first letter that is no constant is one of the library's or of the program's own. */
    private static void names(String bare) {
        Set<String> own = new HashSet<>();
        for (Class<?> one : CLASSES) own.add(one.getSimpleName());
        Matcher names = Pattern.compile("\\b[A-Z]\\w*[a-z]\\w*").matcher(bare);
        while (names.find()) {
            String name = names.group();
            Check.same("rule 4, " + name, LIBRARY.contains(name) || own.contains(name), true);
        }
    }

    private static void exceptions(String code) {
        none("rule 6, what is thrown", code, "\\bthrow (?!new (" + THROWN + ")\\((\"[^\"]*\")?\\);)[^;]*");
        none("a catch that the machine's exceptions can reach", code,
            "catch \\((?!(IllegalState|IllegalArgument|UnsupportedOperation|NoSuchElement)Exception \\w+\\))[^)]*\\)");
    }

    private static void classes() {
        Set<String> face = new HashSet<>();
        for (Method method : GripInspector.class.getDeclaredMethods()) {
            if (!Modifier.isPrivate(method.getModifiers())) face.add(method.getName());
        }
        Check.same("rule 11, the number of classes", CLASSES.size() <= 12, true);
        for (Class<?> one : CLASSES) {
            String name = one.getSimpleName();
            int modifiers = one.getModifiers();
            if (one != GripInspector.class) {
                Check.same("rule 1, " + name + " is static and not public", Modifier.isStatic(modifiers)
                    && !Modifier.isPublic(modifiers) && !Modifier.isProtected(modifiers), true);
            }
            Check.same("rule 2, classes inside " + name, one.getDeclaredClasses().length,
                one == GripInspector.class ? CLASSES.size() - 1 : 0);
            fields(one);
            for (Method method : one.getDeclaredMethods()) {
                parameters(method);
                boolean hides = Modifier.isPrivate(method.getModifiers()) && face.contains(method.getName());
                Check.same("rule 1, " + method.getName() + " is private and bears a public name", hides, false);
            }
            for (Constructor<?> constructor : one.getDeclaredConstructors()) parameters(constructor);
        }
    }

    private static void parameters(Executable called) {
        Check.same("rule 11, parameters of " + called, called.getParameterCount() <= 7, true);
    }

    private static void fields(Class<?> one) {
        int own = 0;
        for (Field field : one.getDeclaredFields()) {
            boolean isStatic = Modifier.isStatic(field.getModifiers());
            if (!isStatic) own++;
            Check.same("rule 5, " + field, isStatic && !Modifier.isFinal(field.getModifiers()), false);
        }
        Check.same("rule 11, the number of fields of " + one.getSimpleName(), own <= 20, true);
    }

    /** A method begins with a line that ends in a brace, at the depth of a class's members, and ends at that depth. */
    private static void sizes(String source) {
        Matcher methods = Pattern.compile("(?ms)^( {4}| {8})\\w[^;\\n]*\\)[^;\\n]* \\{$.*?^\\1\\}$").matcher(source);
        int number = 0;
        while (methods.find()) {
            number++;
            String first = methods.group().split("\n")[0].strip();
            Check.same("rule 11, the lines of " + first, methods.group().split("\n").length <= 60, true);
        }
        Check.same("methods were found", number > 31, true);
    }
}
