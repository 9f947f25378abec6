import java.lang.reflect.Constructor;
import java.lang.reflect.Field;
import java.lang.reflect.Method;
import java.lang.reflect.Modifier;
import java.util.ArrayList;
import java.util.Collections;
import java.util.HashSet;
import java.util.List;
import java.util.Set;

/** The whole public face, and nothing besides it. */
public final class FaceTest {
    static final String[] METHODS = {
        "int lot(int,int,int) IllegalArgumentException,IllegalStateException",
        "int sun(int,int) IndexOutOfBoundsException,IllegalArgumentException",
        "int panel(int,int,int,int) IndexOutOfBoundsException,IllegalArgumentException,IllegalStateException",
        "long strength(int) IndexOutOfBoundsException",
        "int roll(int) IndexOutOfBoundsException",
        "int seam(int,int,int) IndexOutOfBoundsException,IllegalArgumentException,IllegalStateException",
        "long rip(int) IndexOutOfBoundsException",
        "long bears(int,int) IndexOutOfBoundsException",
        "long bearsAnew(int,int) IndexOutOfBoundsException",
        "int knot(int,int,boolean) IndexOutOfBoundsException,IllegalArgumentException",
        "int load(int) IllegalArgumentException",
        "int rest(int) IllegalArgumentException",
        "int height(int) IndexOutOfBoundsException",
        "int peg(long,int) IllegalArgumentException,IllegalStateException",
        "int gust(long) IllegalArgumentException",
        "long pulled(int) IndexOutOfBoundsException",
        "int pegs() ",
        "float trim(int,int,int) IllegalArgumentException",
        "float power(int) IllegalArgumentException",
        "int halyard(int,int) IllegalArgumentException",
        "int pass(int) IllegalArgumentException,IllegalStateException",
        "int canopy(int) IndexOutOfBoundsException,IllegalStateException",
        "int part(int,int) IndexOutOfBoundsException,IllegalArgumentException,IllegalStateException",
        "int opens(int) IndexOutOfBoundsException",
        "int seal(int,int) IndexOutOfBoundsException,IllegalStateException",
        "int use(int) IndexOutOfBoundsException,IllegalStateException",
        "int wet(int,boolean) IndexOutOfBoundsException,IllegalStateException",
        "int find(int,boolean) IndexOutOfBoundsException,IllegalStateException",
        "int ofCanopy(int,int) IndexOutOfBoundsException,IllegalArgumentException",
        "int lifeAnew(int,int) IndexOutOfBoundsException,IllegalArgumentException",
    };

    public static void main(String[] args) {
        methods();
        constants();
        constructors();
        Due.end();
    }

    private static String names(Class<?>[] types) {
        StringBuilder line = new StringBuilder();
        for (Class<?> type : types) {
            line.append(line.length() == 0 ? "" : ",").append(type.getSimpleName());
        }
        return line.toString();
    }

    private static String line(Method method) {
        return method.getReturnType().getSimpleName() + " " + method.getName()
                + "(" + names(method.getParameterTypes()) + ") " + names(method.getExceptionTypes());
    }

    private static void methods() {
        List<String> face = new ArrayList<>();
        Set<String> publicNames = new HashSet<>();
        Method[] all = BroadseamLoft.class.getDeclaredMethods();
        for (Method method : all) {
            if (Modifier.isPublic(method.getModifiers())) {
                face.add(line(method));
                publicNames.add(method.getName());
            }
        }
        for (Method method : all) {
            if (!Modifier.isPublic(method.getModifiers()) && !method.isSynthetic()) {
                Due.is(true, method.getName() + " is private",
                        () -> Modifier.isPrivate(method.getModifiers()));
                Due.is(false, method.getName() + " bears a public name",
                        () -> publicNames.contains(method.getName()));
            }
        }
        List<String> due = new ArrayList<>(List.of(METHODS));
        Collections.sort(due);
        Collections.sort(face);
        Due.is(due, "the public methods", () -> face);
    }

    private static void constants() {
        List<String> names = new ArrayList<>();
        for (Field field : BroadseamLoft.class.getDeclaredFields()) {
            int modifiers = field.getModifiers();
            if (Modifier.isPublic(modifiers)) {
                names.add(field.getName());
                Due.is(true, field.getName() + " is static and final",
                        () -> Modifier.isStatic(modifiers) && Modifier.isFinal(modifiers));
            } else {
                Due.is(true, field.getName() + " is private", () -> Modifier.isPrivate(modifiers));
            }
        }
        Collections.sort(names);
        Due.is("[BIAS, FELLED, FLAT, NONE, WARP, WEFT, ZIGZAG]", "the constants", () -> names);
        Due.is(-1, "NONE", () -> BroadseamLoft.NONE);
        Due.is("0 1 2", "WARP, WEFT, BIAS",
                () -> BroadseamLoft.WARP + " " + BroadseamLoft.WEFT + " " + BroadseamLoft.BIAS);
        Due.is("0 1 2", "FLAT, FELLED, ZIGZAG",
                () -> BroadseamLoft.FLAT + " " + BroadseamLoft.FELLED + " " + BroadseamLoft.ZIGZAG);
    }

    private static void constructors() {
        Constructor<?>[] all = BroadseamLoft.class.getDeclaredConstructors();
        Due.is(1, "the constructors", () -> all.length);
        Due.is(true, "the constructor is public and bare",
                () -> Modifier.isPublic(all[0].getModifiers()) && all[0].getParameterCount() == 0);
        Due.is(true, "the class is public and final", () -> {
            int modifiers = BroadseamLoft.class.getModifiers();
            return Modifier.isPublic(modifiers) && Modifier.isFinal(modifiers);
        });
    }
}
