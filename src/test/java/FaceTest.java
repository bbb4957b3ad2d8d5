import java.lang.reflect.Constructor;
import java.lang.reflect.Field;
import java.lang.reflect.Method;
import java.lang.reflect.Modifier;
import java.util.ArrayList;
import java.util.List;
import java.util.Set;
import java.util.TreeSet;

/** "The public face" of the document, which holds for promises 1 to 19, and rules 1 and 2 of LANGUAGE.md. */
public final class FaceTest {
    /** The lines of the document, without the names of the arguments. */
    private static final List<String> METHODS = List.of(
            "int field(int) throws IllegalArgumentException, IllegalStateException",
            "int setReserve(int, int) throws IndexOutOfBoundsException, IllegalArgumentException",
            "int join() throws IllegalStateException",
            "boolean setIn(int, boolean) throws IndexOutOfBoundsException",
            "int bid(int, int, int) throws IndexOutOfBoundsException, IllegalArgumentException, IllegalStateException",
            "int setPrice(int, int) throws IndexOutOfBoundsException, IllegalArgumentException",
            "int setWorth(int, int) throws IndexOutOfBoundsException, IllegalArgumentException",
            "int withdraw(int) throws IndexOutOfBoundsException, IllegalStateException",
            "int told(int, int) throws IndexOutOfBoundsException",
            "int about(int, int) throws IndexOutOfBoundsException",
            "int land(int, int) throws IndexOutOfBoundsException",
            "int count(int) throws IndexOutOfBoundsException",
            "int alone(int, int) throws IndexOutOfBoundsException",
            "int would(int, int, int) throws IndexOutOfBoundsException, IllegalArgumentException",
            "int least(int) throws IndexOutOfBoundsException",
            "int rival()",
            "double mean()",
            "long digest()");

    private FaceTest() {
    }

    public static void main(String[] args) {
        Check.test("promise 1, face: a public final class without a package", FaceTest::theClass);
        Check.test("promise 1, face: one constructor, public, without arguments", FaceTest::theConstructor);
        Check.test("promises 2 to 19, face: these methods, each with what it throws", FaceTest::theMethods);
        Check.test("face, rule 1: whatever else there is is private", FaceTest::theRest);
        Check.test("face, rule 1: no private method bears the name of a public one", FaceTest::theNames);
        Check.test("face, rule 2: the classes inside are static and not public", FaceTest::theClassesInside);
        Check.end();
    }

    private static void theClass() {
        alike("class", "public final", Modifier.toString(PastureBids.class.getModifiers()));
        alike("package", "", PastureBids.class.getPackageName());
        alike("class above", "Object", PastureBids.class.getSuperclass().getSimpleName());
        Check.same("interfaces", 0, PastureBids.class.getInterfaces().length);
    }

    private static void theConstructor() {
        Constructor<?>[] constructors = PastureBids.class.getDeclaredConstructors();
        Check.same("constructors", 1, constructors.length);
        alike("constructor", "public", Modifier.toString(constructors[0].getModifiers()));
        alike("arguments", "", names(constructors[0].getParameterTypes()));
        alike("exceptions", "", names(constructors[0].getExceptionTypes()));
    }

    private static void theMethods() {
        List<String> got = new ArrayList<>();
        for (Method method : PastureBids.class.getDeclaredMethods()) {
            if (Modifier.isPublic(method.getModifiers())) {
                alike(method.getName(), "public", Modifier.toString(method.getModifiers()));
                got.add(line(method));
            }
        }
        alike("what is missing", "[]", without(METHODS, got));
        alike("what is too much", "[]", without(got, METHODS));
    }

    private static void theRest() {
        for (Field field : PastureBids.class.getDeclaredFields()) {
            Check.same(field.getName() + " is private", true, Modifier.isPrivate(field.getModifiers()));
        }
        for (Method method : PastureBids.class.getDeclaredMethods()) {
            int modifiers = method.getModifiers();
            Check.same(method.getName() + " is public or private", true,
                    Modifier.isPublic(modifiers) || Modifier.isPrivate(modifiers));
        }
    }

    private static void theNames() {
        Set<String> open = new TreeSet<>();
        for (String method : METHODS) {
            open.add(method.substring(method.indexOf(' ') + 1, method.indexOf('(')));
        }
        List<Class<?>> classes = new ArrayList<>(List.of(PastureBids.class.getDeclaredClasses()));
        classes.add(PastureBids.class);
        for (Class<?> one : classes) {
            for (Method method : one.getDeclaredMethods()) {
                boolean isPublic = Modifier.isPublic(method.getModifiers());
                Check.same(method.getName() + " is a public name", isPublic, open.contains(method.getName()));
            }
        }
    }

    private static void theClassesInside() {
        for (Class<?> inside : PastureBids.class.getDeclaredClasses()) {
            int modifiers = inside.getModifiers();
            Check.same(inside.getName() + " is static", true, Modifier.isStatic(modifiers));
            Check.same(inside.getName() + " is public or protected", false,
                    Modifier.isPublic(modifiers) || Modifier.isProtected(modifiers));
        }
    }

    private static String without(List<String> lines, List<String> others) {
        List<String> left = new ArrayList<>(lines);
        left.removeAll(others);
        return left.toString();
    }

    private static String line(Method method) {
        return method.getReturnType().getSimpleName() + " " + method.getName()
                + "(" + names(method.getParameterTypes()) + ")" + throwing(method.getExceptionTypes());
    }

    private static String throwing(Class<?>[] exceptions) {
        return exceptions.length == 0 ? "" : " throws " + names(exceptions);
    }

    private static String names(Class<?>[] types) {
        List<String> names = new ArrayList<>();
        for (Class<?> type : types) {
            names.add(type.getSimpleName());
        }
        return String.join(", ", names);
    }

    private static void alike(String what, String due, String got) {
        if (!got.equals(due)) {
            Check.report(what + " is " + got + ", due is " + due);
        }
    }
}
