import java.lang.reflect.Constructor;
import java.lang.reflect.Field;
import java.lang.reflect.Method;
import java.lang.reflect.Modifier;
import java.util.Arrays;
import java.util.TreeSet;

/** The public face is the document's, with all its exceptions, and nothing else of the class can be seen. */
public final class FaceTest {
    private static final String[] FACE = {
        "int feed(int, int, int, int, int) IllegalStateException",
        "int end(int) IllegalArgumentException",
        "int read()",
        "int place()",
        "int node(int, int) IllegalArgumentException IllegalStateException",
        "int arc(int, int, long) IndexOutOfBoundsException IllegalArgumentException IllegalStateException"
            + " ArithmeticException",
        "long weigh(int, long) IndexOutOfBoundsException IllegalArgumentException ArithmeticException",
        "int about(int, int)",
        "long weight(int)",
        "int clear()",
        "int search(int) IndexOutOfBoundsException",
        "int goal(int, int) IndexOutOfBoundsException IllegalStateException",
        "int both(int, int) IndexOutOfBoundsException",
        "int landmarked(int, int) IndexOutOfBoundsException IllegalStateException",
        "int settled(int)",
        "long length(int)",
        "int count(int)",
        "long distance(int, int)",
        "int arcs(int, int)",
        "long potential(int, long) IndexOutOfBoundsException IllegalArgumentException ArithmeticException",
        "int inconsistent()",
        "int straight(int, int) IndexOutOfBoundsException IllegalArgumentException",
        "int landmark(int) IndexOutOfBoundsException IllegalArgumentException IllegalStateException",
        "long bound(int, int)",
        "int factors(int, int, int)",
        "int prepare() UnsupportedOperationException",
        "int order(int) IndexOutOfBoundsException IllegalArgumentException",
        "int prepareTold() IllegalStateException UnsupportedOperationException",
        "int remake() UnsupportedOperationException",
        "int ready()",
        "int ranked(int)",
        "int edge(int, boolean, int, int)",
        "long edgeLength(int, boolean, int)",
        "int query(int, int) IndexOutOfBoundsException IllegalStateException",
        "int told(int)",
        "long found()",
        "int step(int)",
        "int relaxed(int, int)",
        "int reached(int, int)",
        "int total(int)",
    };

    private static String tell(Method m) {
        StringBuilder text = new StringBuilder();
        text.append(m.getReturnType().getSimpleName()).append(' ').append(m.getName()).append('(');
        String[] types = Arrays.stream(m.getParameterTypes()).map(Class::getSimpleName).toArray(String[]::new);
        text.append(String.join(", ", types)).append(')');
        for (Class<?> e : m.getExceptionTypes()) {
            text.append(' ').append(e.getSimpleName());
        }
        return text.toString();
    }

    private static void methods() {
        TreeSet<String> publicOnes = new TreeSet<>();
        TreeSet<String> names = new TreeSet<>();
        for (Method m : RoutePlanner.class.getDeclaredMethods()) {
            if (Modifier.isPublic(m.getModifiers())) {
                publicOnes.add(tell(m));
                names.add(m.getName());
            } else {
                Check.due(m.getName() + " is private", 1, Modifier.isPrivate(m.getModifiers()) ? 1 : 0);
            }
        }
        Check.due("the face", new TreeSet<>(Arrays.asList(FACE)).toString(), publicOnes.toString());
        for (Method m : RoutePlanner.class.getDeclaredMethods()) {
            if (Modifier.isPrivate(m.getModifiers())) {
                Check.due(m.getName() + " bears the name of a public one", 0, names.contains(m.getName()) ? 1 : 0);
            }
        }
    }

    private static void theRest() {
        Check.due("public final", Modifier.PUBLIC | Modifier.FINAL, RoutePlanner.class.getModifiers());
        Constructor<?>[] constructors = RoutePlanner.class.getDeclaredConstructors();
        Check.due("constructors", 1, constructors.length);
        Check.due("public constructor", 1, Modifier.isPublic(constructors[0].getModifiers()) ? 1 : 0);
        for (Field f : RoutePlanner.class.getDeclaredFields()) {
            boolean constant = f.getName().equals("NONE");
            Check.due(f.getName() + " is public", constant ? 1 : 0, Modifier.isPublic(f.getModifiers()) ? 1 : 0);
            Check.due(f.getName() + " is private", constant ? 0 : 1, Modifier.isPrivate(f.getModifiers()) ? 1 : 0);
        }
        for (Class<?> c : RoutePlanner.class.getDeclaredClasses()) {
            Check.due(c.getSimpleName() + " is static", 1, Modifier.isStatic(c.getModifiers()) ? 1 : 0);
            for (Field f : c.getDeclaredFields()) {
                boolean loose = Modifier.isStatic(f.getModifiers()) && !Modifier.isFinal(f.getModifiers());
                Check.due(f.getName() + " is static and not final", 0, loose ? 1 : 0);
            }
        }
    }

    public static void main(String[] args) {
        methods();
        theRest();
        Check.finish("FaceTest");
    }
}
