import java.lang.reflect.Constructor;
import java.lang.reflect.Field;
import java.lang.reflect.Method;
import java.lang.reflect.Modifier;
import java.util.ArrayList;
import java.util.List;
import java.util.TreeSet;

/** The public face as the document writes it, and no other member that can be seen from outside. */
public final class FaceTest {
    private static final String INDEX = " throws IndexOutOfBoundsException";
    private static final String ARGUMENT = " throws IllegalArgumentException";
    private static final String STATE = " throws IllegalStateException";
    private static final String[] FACE = {
        "int told(int, int)" + INDEX + ARGUMENT,
        "int background(int)" + ARGUMENT,
        "int lowered(int)" + INDEX,
        "int peaks(int)" + ARGUMENT,
        "int peak(int, int)" + INDEX,
        "int line(int, int)" + INDEX + STATE,
        "int element(int, int)" + INDEX + ARGUMENT,
        "int detect(int)" + INDEX,
        "int library()" + STATE,
        "int entry(int, int, int)" + INDEX + ARGUMENT,
        "int parts()",
        "long share(int, int)" + INDEX + STATE,
        "boolean least()" + STATE,
        "int sample()" + STATE,
        "int measured(int, int, int)" + INDEX + ARGUMENT,
        "void covariance(int, int, int)" + ARGUMENT,
        "long distance(int, int, int)" + INDEX,
        "int group(int, int)" + INDEX + ARGUMENT,
        "int standard(int, int)" + ARGUMENT + STATE,
        "long corrected(int, int)" + ARGUMENT,
        "int count(int)" + INDEX,
    };

    public static void main(String[] args) throws ReflectiveOperationException {
        Checks checks = new Checks();
        Class<?> face = SpectrumParts.class;
        checks.told("the class", "public final", Modifier.toString(face.getModifiers()));
        checks.told("its methods", new TreeSet<>(List.of(FACE)).toString(), seenMethods(face).toString());
        checks.told("its constructors", "[public (int)]", seenConstructors(face).toString());
        checks.told("its fields", "[public static final int NONE]", seenFields(face).toString());
        checks.told("private methods by a public name", "[]", sharedNames(face).toString());
        for (Class<?> inside : face.getDeclaredClasses()) {
            checks.told(inside + " is static", "true", Boolean.toString(Modifier.isStatic(inside.getModifiers())));
        }
        checks.end();
    }

    private static TreeSet<String> seenMethods(Class<?> face) {
        TreeSet<String> seen = new TreeSet<>();
        for (Method m : face.getDeclaredMethods()) {
            if (!Modifier.isPrivate(m.getModifiers())) {
                StringBuilder text = new StringBuilder(Modifier.isPublic(m.getModifiers()) ? "" : "not public: ");
                text.append(m.getReturnType().getName()).append(' ').append(m.getName()).append(parameters(m.getParameterTypes()));
                for (Class<?> e : m.getExceptionTypes()) {
                    text.append(" throws ").append(e.getSimpleName());
                }
                seen.add(text.toString());
            }
        }
        return seen;
    }

    private static String parameters(Class<?>[] types) {
        List<String> names = new ArrayList<>();
        for (Class<?> type : types) {
            names.add(type.getName());
        }
        return "(" + String.join(", ", names) + ")";
    }

    private static List<String> seenConstructors(Class<?> face) {
        List<String> seen = new ArrayList<>();
        for (Constructor<?> c : face.getDeclaredConstructors()) {
            seen.add(Modifier.toString(c.getModifiers()) + " " + parameters(c.getParameterTypes()));
        }
        return seen;
    }

    private static List<String> seenFields(Class<?> face) {
        List<String> seen = new ArrayList<>();
        for (Field f : face.getDeclaredFields()) {
            if (!Modifier.isPrivate(f.getModifiers())) {
                seen.add(Modifier.toString(f.getModifiers()) + " " + f.getType().getName() + " " + f.getName());
            }
        }
        return seen;
    }

    private static TreeSet<String> sharedNames(Class<?> face) {
        TreeSet<String> open = new TreeSet<>();
        for (Method m : face.getMethods()) {
            open.add(m.getName());
        }
        TreeSet<String> hidden = new TreeSet<>();
        addHidden(face, hidden);
        for (Class<?> inside : face.getDeclaredClasses()) {
            addHidden(inside, hidden);
        }
        hidden.retainAll(open);
        return hidden;
    }

    private static void addHidden(Class<?> of, TreeSet<String> names) {
        for (Method m : of.getDeclaredMethods()) {
            if (!Modifier.isPublic(m.getModifiers())) {
                names.add(m.getName());
            }
        }
    }
}
