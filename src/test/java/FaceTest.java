import java.lang.reflect.Constructor;
import java.lang.reflect.Field;
import java.lang.reflect.Method;
import java.lang.reflect.Modifier;
import java.util.Set;
import java.util.TreeSet;

/** The public face is the document's, with nothing else that is not private. */
public final class FaceTest {
    private static final Set<String> FACE = Set.of(
        "int constant()", "int array()", "int apply(int,int,int)", "int read(int,int)", "int write(int,int,int)",
        "int terms()", "char kindOf(int)", "int equal(int,int)", "int atMost(int,int,int)", "int atoms()",
        "int clause(int,int,int)", "int clauses()", "int rule(char,int)", "int push()", "int pop()",
        "boolean check()", "int core()", "int coreAt(int)", "boolean follows(int)", "int reasons(int)",
        "int reasonAt(int,int)", "int bound(int,int)", "int classOf(int)", "int classes()", "int valueOf(int)",
        "int functionAt(int,int,int)", "int entry(int,int)", "boolean isTrue(int)", "long trueLiterals()",
        "float coreShare()", "double meanValue()", "boolean isSound()");

    public static void main(String[] args) {
        Due.is("modifiers", Modifier.toString(Congruary.class.getModifiers()), "public final");
        Set<String> methods = new TreeSet<>();
        Set<String> names = new TreeSet<>();
        for (Method method : Congruary.class.getDeclaredMethods()) {
            if (Modifier.isPublic(method.getModifiers())) {
                methods.add(shape(method));
                names.add(method.getName());
            } else {
                Due.is(method + " is private", Modifier.isPrivate(method.getModifiers()), true);
            }
        }
        Due.is("public methods", methods, new TreeSet<>(FACE));
        for (Constructor<?> made : Congruary.class.getDeclaredConstructors()) {
            Due.is("constructor", made.toString(), "public Congruary()");
        }
        for (Field field : Congruary.class.getDeclaredFields()) {
            Due.is(field + " is private", Modifier.isPrivate(field.getModifiers()), true);
        }
        for (Class<?> inside : Congruary.class.getDeclaredClasses()) lookInside(inside, names);
        Due.end();
    }

    private static String shape(Method method) {
        StringBuilder shape = new StringBuilder(method.getReturnType() + " " + method.getName() + "(");
        for (Class<?> type : method.getParameterTypes()) {
            if (shape.charAt(shape.length() - 1) != '(') shape.append(',');
            shape.append(type);
        }
        return shape.append(')').toString();
    }

    /** Static fields are final constants; no method bears the name of a public one; at most seven parameters. */
    private static void lookInside(Class<?> inside, Set<String> names) {
        Due.is(inside + " is static", Modifier.isStatic(inside.getModifiers()), true);
        for (Field field : inside.getDeclaredFields()) {
            if (!Modifier.isStatic(field.getModifiers())) continue;
            Due.is(field + " is final", Modifier.isFinal(field.getModifiers()), true);
            Due.is(field + " is a number", field.getType().isPrimitive(), true);
        }
        for (Method method : inside.getDeclaredMethods()) {
            Due.is(method + " has a name of its own", names.contains(method.getName()), false);
            Due.is(method + " has few parameters", method.getParameterCount() <= 7, true);
        }
    }
}
