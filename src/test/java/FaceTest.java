import java.lang.reflect.Constructor;
import java.lang.reflect.Field;
import java.lang.reflect.Method;
import java.lang.reflect.Modifier;
import java.util.ArrayList;
import java.util.Arrays;
import java.util.Collections;
import java.util.HashSet;
import java.util.List;
import java.util.Set;

/** The public face: just what the document has, and no private method of the same name. */
public final class FaceTest {
    private static final String I = "IndexOutOfBoundsException";
    private static final String A = "IllegalArgumentException";
    private static final String S = "IllegalStateException";
    private static final String[] FACE = {
        "int append(int) " + A + " " + S,
        "int clearText()",
        "int errorPosition()",
        "int load() " + S,
        "int about(int) " + A,
        "int chairOf(int, int) " + I + " " + A,
        "int wobble(int, int) " + I + " " + A,
        "int legOf(int, int, int) " + I + " " + A,
        "int spot(int, int) " + I,
        "int boundOf(int, int) " + I,
        "int setting(int) " + A,
        "int chair(int, int) " + I + " " + A + " " + S,
        "int floor(int, int, int, int) " + A + " " + S,
        "int level(int, int, int) " + I + " " + A,
        "int bring(int, int, int) " + I + " " + A,
        "int saw(int, int, int) " + I + " " + A + " " + S,
        "int shim(int, int, int) " + I + " " + A + " " + S,
        "int test(int) " + I,
        "int sit(int, int) " + I + " " + A,
        "int bound(int, int, int) " + I + " " + A,
        "int set(int, int) " + A,
        "int undo() " + S,
        "int bestTurn(int, int, int) " + I + " " + A,
        "int bestSaw(int) " + I,
        "int failsIn(int, int) " + I + " " + A,
        "int bestFloor(int) " + I,
        "int sound()",
        "int runScript(int, long) " + A,
        "int simulate(long, int) " + A,
        "int save(int) " + I,
        "int restore(int) " + I + " " + S,
    };

    /** What a constant may be by rule 5 of LANGUAGE.md. */
    private static final Set<Class<?>> CONSTANTS = Set.of(int.class, long.class, boolean.class, char.class,
        String.class, int[].class, long[].class, char[].class, byte[].class);
    private static final int MOST_CLASSES = 12;
    private static final int MOST_FIELDS = 20;
    private static final int MOST_PARAMETERS = 7;

    private static final Check CHECK = new Check();

    public static void main(String[] args) {
        Class<?> face = ChairStamps.class;
        CHECK.same("public and final", face.getModifiers(), Modifier.PUBLIC | Modifier.FINAL);
        methods(face);
        constructorsAndFields(face);
        nestedClasses(face);
        limits(face);
        CHECK.end();
    }

    private static void methods(Class<?> face) {
        List<String> got = new ArrayList<>();
        for (Method m : face.getDeclaredMethods()) {
            if (!Modifier.isPrivate(m.getModifiers())) {
                CHECK.same(m.getName() + " is public only", m.getModifiers(), Modifier.PUBLIC);
                got.add((m.getReturnType() + " " + m.getName() + list(m.getParameterTypes(), "(", ", ") + ") "
                    + list(m.getExceptionTypes(), "", " ")).trim());
            }
        }
        List<String> due = new ArrayList<>(Arrays.asList(FACE));
        Collections.sort(got);
        Collections.sort(due);
        if (!got.equals(due)) {
            CHECK.fault("the methods are " + got + "\ndue are " + due);
        }
    }

    private static String list(Class<?>[] types, String before, String between) {
        List<String> names = new ArrayList<>();
        for (Class<?> type : types) {
            names.add(type.getSimpleName());
        }
        return before + String.join(between, names);
    }

    private static void constructorsAndFields(Class<?> face) {
        Constructor<?>[] constructors = face.getDeclaredConstructors();
        CHECK.same("constructors", constructors.length, 1);
        CHECK.same("the constructor is public", constructors[0].getModifiers(), Modifier.PUBLIC);
        CHECK.same("it has no parameters", constructors[0].getParameterCount(), 0);
        for (Field f : face.getDeclaredFields()) {
            boolean named = f.getName().equals("NONE");
            boolean hidden = Modifier.isPrivate(f.getModifiers());
            CHECK.same(f.getName() + " is private, or the constant", named != hidden ? 1 : 0, 1);
        }
    }

    private static void nestedClasses(Class<?> face) {
        Set<String> names = new HashSet<>();
        for (String method : FACE) {
            names.add(method.substring(4, method.indexOf('(')));
        }
        List<Class<?>> all = new ArrayList<>(Arrays.asList(face.getDeclaredClasses()));
        for (Class<?> inner : all) {
            int modifiers = inner.getModifiers();
            CHECK.same(inner + " is static", modifiers & Modifier.STATIC, Modifier.STATIC);
            CHECK.same(inner + " is hidden", modifiers & (Modifier.PUBLIC | Modifier.PROTECTED), 0);
        }
        all.add(face);
        for (Class<?> c : all) {
            for (Method m : c.getDeclaredMethods()) {
                boolean shared = names.contains(m.getName()) && !Modifier.isPublic(m.getModifiers());
                CHECK.same(c.getName() + "." + m.getName() + " has a public one's name", shared ? 1 : 0, 0);
            }
            for (Field f : c.getDeclaredFields()) {
                int modifiers = f.getModifiers();
                boolean loose = Modifier.isStatic(modifiers) && !Modifier.isFinal(modifiers);
                CHECK.same(c.getName() + "." + f.getName() + " is static state", loose ? 1 : 0, 0);
            }
        }
    }

    /** Rules 5 and 11 of LANGUAGE.md. */
    private static void limits(Class<?> face) {
        List<Class<?>> all = new ArrayList<>(Arrays.asList(face.getDeclaredClasses()));
        all.add(face);
        CHECK.same("too many classes", all.size() > MOST_CLASSES ? all.size() : 0, 0);
        for (Class<?> c : all) {
            int fields = 0;
            for (Field f : c.getDeclaredFields()) {
                boolean constant = Modifier.isStatic(f.getModifiers());
                fields += constant ? 0 : 1;
                boolean allowed = !constant || CONSTANTS.contains(f.getType());
                CHECK.same(c.getName() + "." + f.getName() + " is no constant of rule 5", allowed ? 0 : 1, 0);
            }
            CHECK.same(c.getName() + " has too many fields", fields > MOST_FIELDS ? fields : 0, 0);
            for (Method m : c.getDeclaredMethods()) {
                int parameters = m.getParameterCount();
                CHECK.same(c.getName() + "." + m.getName() + " takes too many parameters",
                    parameters > MOST_PARAMETERS ? parameters : 0, 0);
            }
        }
    }
}
