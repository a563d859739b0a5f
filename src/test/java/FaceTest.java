import java.lang.reflect.Constructor;
import java.lang.reflect.Field;
import java.lang.reflect.Method;
import java.lang.reflect.Modifier;
import java.util.Set;
import java.util.TreeSet;

/** The public face: the members that the document lists, with what they throw, and no others. */
public final class FaceTest {
    private static final String VERTEX = " throws IndexOutOfBoundsException";
    private static final String LABEL = VERTEX + " IllegalStateException";
    private static final String ARGUMENT = LABEL + " IllegalArgumentException";

    private static final String[] METHODS = {
        "int addVertex() throws IllegalStateException",
        "int addVertices(int) throws IllegalArgumentException IllegalStateException",
        "int addEdge(int int)" + LABEL,
        "int clear()",
        "int vertices()",
        "int edges()",
        "long neighbours(int)" + VERTEX,
        "int build()",
        "boolean isBuilt()",
        "int rank(int)" + LABEL,
        "int entries()",
        "int entriesIfBuilt()",
        "int labelSize(int)" + LABEL,
        "int entryHub(int int)" + ARGUMENT,
        "int entryDistance(int int)" + ARGUMENT,
        "int entryParent(int int)" + ARGUMENT,
        "int distance(int int)" + LABEL,
        "int hub(int int)" + LABEL,
        "int pathVertex(int int int)" + ARGUMENT,
        "long within(int int)" + ARGUMENT,
        "int eccentricity(int)" + LABEL,
        "int pruned()",
        "int written()",
    };

    public static void main(String[] args) {
        Class<?> face = LandmarkLea.class;
        Check.equal("modifiers", Modifier.toString(face.getModifiers()), "public final");
        Check.equal("package", face.getPackageName(), "");
        Check.equal("methods", methods(face).toString(), new TreeSet<>(Set.of(METHODS)).toString());
        Check.equal("fields", openFields(face).toString(), "[public static final int NONE]");
        Check.equal("constructors", openConstructors(face).toString(), "[public LandmarkLea()]");
        for (Class<?> inside : face.getDeclaredClasses()) {
            int modifiers = inside.getModifiers();
            Check.equal(inside + " is static", Modifier.isStatic(modifiers), true);
            Check.equal(inside + " is open", Modifier.isPublic(modifiers) || Modifier.isProtected(modifiers), false);
        }
        noPrivateMethodBearsAPublicName(face);
        Check.finish("FaceTest");
    }

    private static TreeSet<String> methods(Class<?> face) {
        TreeSet<String> found = new TreeSet<>();
        for (Method method : face.getDeclaredMethods()) {
            if (!Modifier.isPrivate(method.getModifiers())) {
                String open = Modifier.toString(method.getModifiers()).equals("public") ? "" : "not just public: ";
                found.add(open + method.getReturnType() + " " + method.getName()
                        + "(" + names(method.getParameterTypes()) + ")" + thrown(method));
            }
        }
        return found;
    }

    private static String thrown(Method method) {
        Class<?>[] kinds = method.getExceptionTypes();
        return kinds.length == 0 ? "" : " throws " + names(kinds);
    }

    private static String names(Class<?>[] kinds) {
        StringBuilder text = new StringBuilder();
        for (Class<?> kind : kinds) {
            text.append(text.length() == 0 ? "" : " ").append(kind.getSimpleName());
        }
        return text.toString();
    }

    private static TreeSet<String> openFields(Class<?> face) {
        TreeSet<String> found = new TreeSet<>();
        for (Field field : face.getDeclaredFields()) {
            if (!Modifier.isPrivate(field.getModifiers())) {
                found.add(Modifier.toString(field.getModifiers()) + " " + field.getType() + " " + field.getName());
            }
        }
        return found;
    }

    private static TreeSet<String> openConstructors(Class<?> face) {
        TreeSet<String> found = new TreeSet<>();
        for (Constructor<?> constructor : face.getDeclaredConstructors()) {
            if (!Modifier.isPrivate(constructor.getModifiers())) {
                found.add(constructor.toString());
            }
        }
        return found;
    }

    private static void noPrivateMethodBearsAPublicName(Class<?> face) {
        TreeSet<String> open = new TreeSet<>();
        for (Method method : face.getMethods()) {
            open.add(method.getName());
        }
        for (Method method : face.getDeclaredMethods()) {
            boolean clashes = Modifier.isPrivate(method.getModifiers()) && open.contains(method.getName());
            Check.equal("private " + method.getName() + " bears a public name", clashes, false);
        }
        for (Class<?> inside : face.getDeclaredClasses()) {
            for (Method method : inside.getDeclaredMethods()) {
                Check.equal(method + " bears a public name", open.contains(method.getName()), false);
            }
        }
    }
}
