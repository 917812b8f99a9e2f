import java.lang.reflect.Constructor;
import java.lang.reflect.Field;
import java.lang.reflect.Method;
import java.lang.reflect.Modifier;
import java.util.Arrays;
import java.util.TreeSet;

/** The public face is the document's, and nothing else can be reached from outside. */
public final class FaceTest {
    private static final String I = "IllegalArgumentException";
    private static final String S = "IllegalStateException";
    private static final String X = "IndexOutOfBoundsException";
    private static final String[] FACE = {
        "int append(int) " + I + " " + S, "int clearText()", "int errorPosition()", "int load() " + S,
        "int about(int) " + I, "int grip(int, int) " + X + " " + I, "int slot(int) " + X, "long random()",
        "int report(int) " + I, "int step(int) " + I, "int addGrip(int) " + I + " " + S,
        "int putOn(int, int) " + X + " " + S, "int takeOff(int) " + X + " " + S, "int scrap(int) " + X + " " + S,
        "int setLimit(int, int) " + I, "long setRandom(long)", "int undo() " + S, "int gap(int) " + X,
        "int room(int) " + I, "int groups(int) " + I, "int dueAfter(int) " + X, "int chance(int, boolean) " + I,
        "int ahead(int, int, int) " + X + " " + I, "int happens(int, int) " + I, "int bestLimit(int) " + I,
        "int emptyAfter()", "int runScript(int, long) " + I, "int simulate(long, int) " + I, "int save(int) " + X,
        "int restore(int) " + X + " " + S};

    public static void main(String[] args) {
        TreeSet<String> methods = new TreeSet<>();
        for (Method method : GripInspector.class.getDeclaredMethods()) {
            if (Modifier.isPrivate(method.getModifiers())) continue;
            Check.same("modifiers of " + method.getName(), method.getModifiers(), Modifier.PUBLIC);
            methods.add(told(method));
        }
        Check.same("the methods", methods, new TreeSet<>(Arrays.asList(FACE)));
        for (Field field : GripInspector.class.getDeclaredFields()) {
            if (field.getName().equals("NONE")) {
                Check.same("NONE", field.getModifiers(), Modifier.PUBLIC | Modifier.STATIC | Modifier.FINAL);
            } else {
                Check.same(field.getName() + " is private", Modifier.isPrivate(field.getModifiers()), true);
            }
        }
        Constructor<?>[] constructors = GripInspector.class.getDeclaredConstructors();
        Check.same("constructors", constructors.length, 1);
        Check.same("modifiers of the constructor", constructors[0].getModifiers(), Modifier.PUBLIC);
        Check.same("parameters of the constructor", constructors[0].getParameterCount(), 0);
        Check.same("the class", GripInspector.class.getModifiers(), Modifier.PUBLIC | Modifier.FINAL);
        Check.end();
    }

    private static String told(Method method) {
        StringBuilder all = new StringBuilder(method.getReturnType().getName()).append(' ').append(method.getName());
        String parameters = Arrays.toString(Arrays.stream(method.getParameterTypes()).map(Class::getName).toArray());
        all.append('(').append(parameters, 1, parameters.length() - 1).append(')');
        for (Class<?> thrown : method.getExceptionTypes()) all.append(' ').append(thrown.getSimpleName());
        return all.toString();
    }
}
