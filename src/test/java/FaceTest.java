import java.lang.reflect.Constructor;
import java.lang.reflect.Field;
import java.lang.reflect.Method;
import java.lang.reflect.Modifier;
import java.util.ArrayList;
import java.util.Arrays;
import java.util.HashSet;
import java.util.List;
import java.util.Set;
import java.util.TreeSet;

/** The face of the class is the document's: nothing is missing and nothing else can be seen from outside. */
public final class FaceTest {
    private static final String ILLEGAL = "IllegalArgumentException";
    private static final String BOUNDS = "IndexOutOfBoundsException";
    private static final String UNSUPPORTED = "UnsupportedOperationException";
    private static final String STATE = "IllegalStateException";

    public static void main(String[] args) {
        Due due = new Due();
        due.is("public and final", true, () -> isPublicFinal(PairedTexts.class));
        due.is("NONE", -1, () -> PairedTexts.NONE);
        due.is("constructors", "[public PairedTexts()]", () -> constructors());
        due.is("fields", "[public static final int NONE]", () -> visibleFields());
        due.is("methods", new TreeSet<>(wantedMethods()), () -> visibleMethods());
        due.is("private methods with a public name", "[]", () -> privateNamesakes());
        due.is("static fields that are not final", "[]", () -> changeableStatics());
        due.end();
    }

    private static List<String> wantedMethods() {
        return Arrays.asList(
                "int write(int, long, int) " + Arrays.asList(ILLEGAL, UNSUPPORTED),
                "int length(int) " + Arrays.asList(ILLEGAL),
                "int byteAt(int, int) " + Arrays.asList(ILLEGAL, BOUNDS),
                "int copy(int, int, int, int) " + Arrays.asList(ILLEGAL, BOUNDS),
                "int join(int, int, int) " + Arrays.asList(ILLEGAL, UNSUPPORTED),
                "int insert(int, int, int, int, int) " + Arrays.asList(ILLEGAL, BOUNDS, UNSUPPORTED),
                "int delete(int, int, int) " + Arrays.asList(ILLEGAL, BOUNDS),
                "int move(int, int, int, int) " + Arrays.asList(ILLEGAL, BOUNDS),
                "int repeat(int, int, int, int) " + Arrays.asList(ILLEGAL, BOUNDS, UNSUPPORTED),
                "boolean same(int, int, int, int, int) " + Arrays.asList(ILLEGAL, BOUNDS),
                "int prefix(int, int, int, int) " + Arrays.asList(ILLEGAL, BOUNDS),
                "int order(int, int, int, int) " + Arrays.asList(ILLEGAL, BOUNDS),
                "long name(int, int, int) " + Arrays.asList(ILLEGAL, BOUNDS),
                "void pattern(long, long, int) " + Arrays.asList(ILLEGAL),
                "int count(int, int, int) " + Arrays.asList(ILLEGAL, BOUNDS, STATE),
                "int find(int, int, int) " + Arrays.asList(ILLEGAL, BOUNDS, STATE),
                "void lead(int, int, int, int) " + Arrays.asList(ILLEGAL),
                "void accept(int, boolean) " + Arrays.asList(ILLEGAL),
                "int run(int, int, int, int) " + Arrays.asList(ILLEGAL, BOUNDS),
                "int accepted(int, int, int, int) " + Arrays.asList(ILLEGAL, BOUNDS));
    }

    private static boolean isPublicFinal(Class<?> type) {
        return Modifier.isPublic(type.getModifiers()) && Modifier.isFinal(type.getModifiers());
    }

    private static String constructors() {
        Set<String> all = new TreeSet<>();
        for (Constructor<?> c : PairedTexts.class.getDeclaredConstructors()) {
            all.add(c.toString());
        }
        return all.toString();
    }

    private static String visibleFields() {
        Set<String> visible = new TreeSet<>();
        for (Field f : PairedTexts.class.getDeclaredFields()) {
            if (!Modifier.isPrivate(f.getModifiers())) {
                visible.add(Modifier.toString(f.getModifiers()) + " " + f.getType() + " " + f.getName());
            }
        }
        return visible.toString();
    }

    private static Set<String> visibleMethods() {
        Set<String> visible = new TreeSet<>();
        for (Method m : PairedTexts.class.getDeclaredMethods()) {
            if (!Modifier.isPrivate(m.getModifiers())) {
                String modifiers = Modifier.toString(m.getModifiers()).equals("public") ? "" : "not just public: ";
                visible.add(modifiers + m.getReturnType() + " " + m.getName() + "(" + names(m.getParameterTypes())
                        + ") [" + names(m.getExceptionTypes()) + "]");
            }
        }
        return visible;
    }

    private static String names(Class<?>[] types) {
        List<String> names = new ArrayList<>();
        for (Class<?> type : types) {
            names.add(type.getSimpleName());
        }
        return String.join(", ", names);
    }

    private static List<String> privateNamesakes() {
        Set<String> open = new HashSet<>();
        for (Method m : PairedTexts.class.getMethods()) {
            open.add(m.getName());
        }
        List<String> namesakes = new ArrayList<>();
        for (Class<?> type : classes()) {
            for (Method m : type.getDeclaredMethods()) {
                boolean ofTheFace = type == PairedTexts.class && Modifier.isPublic(m.getModifiers());
                if (!ofTheFace && open.contains(m.getName())) {
                    namesakes.add(m.toString());
                }
            }
        }
        return namesakes;
    }

    private static List<String> changeableStatics() {
        List<String> changeable = new ArrayList<>();
        for (Class<?> type : classes()) {
            for (Field f : type.getDeclaredFields()) {
                if (Modifier.isStatic(f.getModifiers()) && !Modifier.isFinal(f.getModifiers())) {
                    changeable.add(f.toString());
                }
            }
        }
        return changeable;
    }

    private static List<Class<?>> classes() {
        List<Class<?>> all = new ArrayList<>(Arrays.asList(PairedTexts.class.getDeclaredClasses()));
        all.add(PairedTexts.class);
        return all;
    }
}
