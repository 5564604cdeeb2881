import java.lang.reflect.Constructor;
import java.lang.reflect.Field;
import java.lang.reflect.Method;
import java.lang.reflect.Modifier;
import java.util.List;
import java.util.Set;
import java.util.TreeSet;

/** The public face is the document's, with nothing else that is not private. */
public final class FaceTest {
    private static final String[] FACE = {
        "int constant() IllegalStateException",
        "int array() IllegalStateException",
        "int apply(int,int,int) IllegalArgumentException, NoSuchElementException, IllegalStateException",
        "int read(int,int) NoSuchElementException, IllegalStateException",
        "int write(int,int,int) NoSuchElementException, IllegalStateException",
        "int terms()",
        "char kindOf(int) NoSuchElementException",
        "int equal(int,int) NoSuchElementException, IllegalStateException",
        "int atMost(int,int,int) NoSuchElementException, IllegalArgumentException, IllegalStateException",
        "int atoms()",
        "int clause(int,int,int) NoSuchElementException, IllegalStateException",
        "int clauses()",
        "int rule(char,int) IllegalArgumentException, IllegalStateException",
        "int push() IllegalStateException",
        "int pop() IllegalStateException",
        "boolean check()",
        "int core() IllegalStateException",
        "int coreAt(int) IllegalStateException, IndexOutOfBoundsException",
        "boolean follows(int) NoSuchElementException",
        "int reasons(int) NoSuchElementException, IllegalStateException",
        "int reasonAt(int,int) NoSuchElementException, IllegalStateException, IndexOutOfBoundsException",
        "int bound(int,int) NoSuchElementException, IllegalStateException, UnsupportedOperationException",
        "int classOf(int) NoSuchElementException, IllegalStateException",
        "int classes() IllegalStateException",
        "int valueOf(int) NoSuchElementException, IllegalStateException",
        "int functionAt(int,int,int) IllegalArgumentException, IllegalStateException",
        "int entry(int,int) NoSuchElementException, IllegalStateException",
        "boolean isTrue(int) NoSuchElementException, IllegalStateException",
        "long trueLiterals() IllegalStateException",
        "float coreShare() IllegalStateException",
        "double meanValue() IllegalStateException, ArithmeticException",
        "boolean isSound()"
    };

    public static void main(String[] args) {
        Due.is("modifiers", Modifier.toString(Congruary.class.getModifiers()), "public final");
        Set<String> methods = new TreeSet<>();
        Set<String> names = new TreeSet<>();
        for (Method method : Congruary.class.getDeclaredMethods()) {
            if (Modifier.isPublic(method.getModifiers())) {
                methods.add(shape(method));
                names.add(method.getName());
            } else {
                Due.is(method + " is private", Modifier.isPrivate(method.getModifiers()), true);
            }
        }
        Due.is("public methods", methods, new TreeSet<>(List.of(FACE)));
        for (Constructor<?> made : Congruary.class.getDeclaredConstructors()) {
            Due.is("constructor", made.toString(), "public Congruary()");
        }
        for (Field field : Congruary.class.getDeclaredFields()) {
            Due.is(field + " is private", Modifier.isPrivate(field.getModifiers()), true);
        }
        for (Class<?> inside : Congruary.class.getDeclaredClasses()) lookInside(inside, names);
        Due.end();
    }

    private static String shape(Method method) {
        StringBuilder shape = new StringBuilder(method.getReturnType() + " " + method.getName() + "(");
        for (Class<?> type : method.getParameterTypes()) {
            if (shape.charAt(shape.length() - 1) != '(') shape.append(',');
            shape.append(type);
        }
        shape.append(')');
        String before = " ";
        for (Class<?> failure : method.getExceptionTypes()) {
            shape.append(before).append(failure.getSimpleName());
            before = ", ";
        }
        return shape.toString();
    }

    /** Static fields are final constants; no method bears the name of a public one; at most seven parameters. */
    private static void lookInside(Class<?> inside, Set<String> names) {
        Due.is(inside + " is static", Modifier.isStatic(inside.getModifiers()), true);
        for (Field field : inside.getDeclaredFields()) {
            if (!Modifier.isStatic(field.getModifiers())) continue;
            Due.is(field + " is final", Modifier.isFinal(field.getModifiers()), true);
            Due.is(field + " is a number", field.getType().isPrimitive(), true);
        }
        for (Method method : inside.getDeclaredMethods()) {
            Due.is(method + " has a name of its own", names.contains(method.getName()), false);
            Due.is(method + " has few parameters", method.getParameterCount() <= 7, true);
        }
    }
}
