import java.lang.reflect.Constructor;
import java.lang.reflect.Field;
import java.lang.reflect.Method;
import java.lang.reflect.Modifier;
import java.util.Arrays;
import java.util.Set;
import java.util.TreeSet;

/** The class shows the document's face and nothing more (rules 1 and 5 of LANGUAGE.md). */
public final class FaceTest {
    private static int wrong = 0;

    public static void main(String[] args) {
        compare("class", String.valueOf(isPublicFinal(TwinLedgers.class.getModifiers())), "true");
        compare("constructors", constructors(), Set.of("TwinLedgers[int]").toString());
        compare("methods", methods().toString(), new TreeSet<>(Set.of(
                "int tick[int]",
                "int update[int, int, int, boolean]",
                "int init[int, int, boolean]",
                "int attempt[int, int, boolean, int]",
                "int open[int, int, int, int]",
                "int close[int, int]",
                "int send[int, int, int, int, int]",
                "int receive[int, int, int, int, boolean]",
                "int acknowledge[int, int, int, int]",
                "int timeout[int, int, int, int, boolean]",
                "int round[]",
                "int height[int]",
                "int root[int, int]",
                "boolean knows[int, int]",
                "int end[int, int, int]",
                "int packet[int, int, int]",
                "int limit[int, int, int]",
                "int balance[int, int, int]",
                "int escrow[int, int, int]",
                "int voucher[int, int]")).toString());
        compare("constants", constants().toString(), new TreeSet<>(Set.of(
                "WRONG=-1", "STATE=-2", "UNKNOWN=-3", "GONE=-4", "PROOF=-5", "FORGED=-6", "POOR=-7",
                "DONE=-8", "LATE=-9")).toString());
        checkNestedClasses();
        System.out.println(wrong == 0 ? "the face is as due" : wrong + " faults in the face");
        if (wrong != 0) {
            System.exit(1);
        }
    }

    private static void compare(String what, String got, String want) {
        if (!got.equals(want)) {
            wrong++;
            System.out.println(what + ": " + got + ", due is " + want);
        }
    }

    private static boolean isPublicFinal(int modifiers) {
        return Modifier.isPublic(modifiers) && Modifier.isFinal(modifiers);
    }

    private static String constructors() {
        Set<String> seen = new TreeSet<>();
        for (Constructor<?> constructor : TwinLedgers.class.getDeclaredConstructors()) {
            seen.add(constructor.getName() + Arrays.toString(constructor.getParameterTypes()));
        }
        return seen.toString();
    }

    private static Set<String> methods() {
        Set<String> seen = new TreeSet<>();
        for (Method method : TwinLedgers.class.getDeclaredMethods()) {
            if (!Modifier.isPrivate(method.getModifiers()) && !method.isSynthetic()) {
                seen.add(method.getReturnType() + " " + method.getName()
                        + Arrays.toString(method.getParameterTypes()));
            }
        }
        return seen;
    }

    private static Set<String> constants() {
        Set<String> seen = new TreeSet<>();
        for (Field field : TwinLedgers.class.getDeclaredFields()) {
            if (Modifier.isPrivate(field.getModifiers()) || field.isSynthetic()) {
                continue;
            }
            try {
                seen.add(field.getName() + "=" + field.getInt(null));
            } catch (ReflectiveOperationException | RuntimeException e) {
                seen.add(field.getName() + " is no int constant");
            }
        }
        return seen;
    }

    private static void checkNestedClasses() {
        Set<String> faceNames = new TreeSet<>();
        for (Method method : TwinLedgers.class.getMethods()) {
            faceNames.add(method.getName());
        }
        checkStaticFields(TwinLedgers.class);
        for (Class<?> nested : TwinLedgers.class.getDeclaredClasses()) {
            int modifiers = nested.getModifiers();
            compare(nested + " static", String.valueOf(Modifier.isStatic(modifiers)), "true");
            compare(nested + " public", String.valueOf(Modifier.isPublic(modifiers)), "false");
            checkStaticFields(nested);
            for (Method method : nested.getDeclaredMethods()) {
                compare(nested + "." + method.getName() + " bears a public name",
                        String.valueOf(faceNames.contains(method.getName())), "false");
            }
        }
    }

    private static void checkStaticFields(Class<?> owner) {
        for (Field field : owner.getDeclaredFields()) {
            if (Modifier.isStatic(field.getModifiers()) && !field.isSynthetic()) {
                compare(owner + "." + field.getName() + " final",
                        String.valueOf(Modifier.isFinal(field.getModifiers())), "true");
            }
        }
    }
}
