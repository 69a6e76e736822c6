import java.lang.reflect.Constructor;
import java.lang.reflect.Field;
import java.lang.reflect.Method;
import java.lang.reflect.Modifier;
import java.util.Set;
import java.util.TreeSet;

/** The public face: what the document lists and nothing else. */
final class FaceTest {
    private FaceTest() {
    }

    public static void main(String[] args) {
        Check.same("modifiers", Modifier.toString(TwoSeals.class.getModifiers()), "public final");
        Check.same("public methods", publicMethods(), Set.of(
                "int type(int,long,int) IllegalArgumentException IllegalStateException",
                "int clear(int) IllegalArgumentException",
                "void poke(int,int,int) IllegalArgumentException IndexOutOfBoundsException",
                "int take(int) IllegalArgumentException IllegalStateException",
                "void block() IllegalStateException",
                "void hash(int) IllegalArgumentException IllegalStateException",
                "int seal(int) IllegalArgumentException IllegalStateException",
                "int open(int) IllegalArgumentException IllegalStateException UnsupportedOperationException",
                "int size()",
                "int at(int) IndexOutOfBoundsException"));
        Constructor<?>[] constructors = TwoSeals.class.getDeclaredConstructors();
        Check.same("constructors", constructors.length, 1);
        Check.same("the constructor", constructors[0].toString(), "public TwoSeals()");
        for (Field field : TwoSeals.class.getDeclaredFields()) {
            Check.same(field + " is private", Modifier.isPrivate(field.getModifiers()), true);
            if (Modifier.isStatic(field.getModifiers())) {
                Check.same(field + " is final", Modifier.isFinal(field.getModifiers()), true);
            }
        }
        Set<String> names = new TreeSet<>();
        for (Method method : TwoSeals.class.getMethods()) {
            names.add(method.getName());
        }
        bearsNoPublicName(TwoSeals.class, names);
        for (Class<?> inside : TwoSeals.class.getDeclaredClasses()) {
            Check.same(inside + " is static", Modifier.isStatic(inside.getModifiers()), true);
            Check.same(inside + " is private", Modifier.isPrivate(inside.getModifiers()), true);
            bearsNoPublicName(inside, names);
        }
        Check.end();
    }

    // LANGUAGE.md, rule 1.
    private static void bearsNoPublicName(Class<?> owner, Set<String> names) {
        for (Method method : owner.getDeclaredMethods()) {
            if (!Modifier.isPublic(method.getModifiers())) {
                Check.same(owner + " hides " + method.getName(), names.contains(method.getName()), false);
            }
        }
    }

    private static Set<String> publicMethods() {
        Set<String> faces = new TreeSet<>();
        for (Method method : TwoSeals.class.getDeclaredMethods()) {
            if (!Modifier.isPrivate(method.getModifiers())) {
                faces.add(face(method));
            }
        }
        return faces;
    }

    private static String face(Method method) {
        StringBuilder parameters = new StringBuilder();
        for (Class<?> type : method.getParameterTypes()) {
            parameters.append(parameters.length() == 0 ? "" : ",").append(type);
        }
        StringBuilder thrown = new StringBuilder();
        for (Class<?> type : method.getExceptionTypes()) {
            thrown.append(" ").append(type.getSimpleName());
        }
        return method.getReturnType() + " " + method.getName() + "(" + parameters + ")" + thrown;
    }
}
