import java.lang.reflect.Constructor;
import java.lang.reflect.Field;
import java.lang.reflect.Method;
import java.lang.reflect.Modifier;
import java.util.ArrayList;
import java.util.Arrays;
import java.util.List;
import java.util.Set;
import java.util.TreeSet;

/** The public face, and the rules of LANGUAGE.md on members that can be seen from outside. */
public final class FaceTest {
    private static final Checks CHECKS = new Checks();
    private static final String INDEX_ARGUMENT = "IndexOutOfBoundsException IllegalArgumentException";
    private static final String[] FACE = {
        "ploughman 3 IllegalArgumentException IllegalStateException",
        "noise 1", "draw 0 IllegalStateException", "plot 1 IndexOutOfBoundsException",
        "mark 4 " + INDEX_ARGUMENT, "hard 2 IllegalArgumentException", "told 2 " + INDEX_ARGUMENT,
        "about 2 " + INDEX_ARGUMENT, "minutes 2 " + INDEX_ARGUMENT, "limit 1 IllegalArgumentException",
        "feed 5", "rule 1 IllegalArgumentException", "rank 2 IllegalArgumentException",
        "protest 2 " + INDEX_ARGUMENT, "publish 0", "points 2 IllegalArgumentException",
        "line 2 " + INDEX_ARGUMENT, "wait 1 IllegalArgumentException", "count 1",
    };

    public static void main(String[] args) {
        Class<?> face = PloughingMatch.class;
        CHECKS.due("NONE", PloughingMatch.NONE, -1);
        if (!Modifier.isPublic(face.getModifiers()) || !Modifier.isFinal(face.getModifiers())) {
            CHECKS.fail("the class is not public and final");
        }
        methodsAreTheFace(face);
        fieldsAndConstructors(face);
        nestedClasses(face);
        CHECKS.end();
    }

    private static void methodsAreTheFace(Class<?> face) {
        Set<String> seen = new TreeSet<>();
        Set<String> names = new TreeSet<>();
        for (Method method : face.getDeclaredMethods()) {
            if (!Modifier.isPrivate(method.getModifiers())) {
                seen.add(signature(method));
                names.add(method.getName());
            }
        }
        Set<String> want = new TreeSet<>(Arrays.asList(FACE));
        if (!seen.equals(want)) {
            CHECKS.fail("the methods are " + seen + ", due are " + want);
        }
        for (Method method : face.getDeclaredMethods()) {
            if (Modifier.isPrivate(method.getModifiers()) && names.contains(method.getName())) {
                CHECKS.fail("a private method bears the name " + method.getName());
            }
        }
    }

    private static String signature(Method method) {
        List<String> words = new ArrayList<>();
        words.add(method.getName());
        words.add(String.valueOf(method.getParameterCount()));
        for (Class<?> thrown : method.getExceptionTypes()) {
            words.add(thrown.getSimpleName());
        }
        boolean isInt = method.getReturnType() == int.class && Modifier.isPublic(method.getModifiers())
            && !Modifier.isStatic(method.getModifiers());
        for (Class<?> type : method.getParameterTypes()) {
            isInt &= type == int.class;
        }
        return isInt ? String.join(" ", words) : "not of the face: " + method;
    }

    private static void fieldsAndConstructors(Class<?> face) {
        for (Field field : face.getDeclaredFields()) {
            if (!Modifier.isPrivate(field.getModifiers()) && !field.getName().equals("NONE")) {
                CHECKS.fail("the field " + field.getName() + " is not private");
            }
            if (Modifier.isStatic(field.getModifiers()) && !Modifier.isFinal(field.getModifiers())) {
                CHECKS.fail("the static field " + field.getName() + " is not final");
            }
        }
        Constructor<?>[] constructors = face.getDeclaredConstructors();
        CHECKS.due("constructors", constructors.length, 1);
        CHECKS.due("its parameters", constructors[0].getParameterCount(), 0);
        if (!Modifier.isPublic(constructors[0].getModifiers())) {
            CHECKS.fail("the constructor is not public");
        }
    }

    private static void nestedClasses(Class<?> face) {
        for (Class<?> nested : face.getDeclaredClasses()) {
            int modifiers = nested.getModifiers();
            if (!Modifier.isStatic(modifiers) || Modifier.isPublic(modifiers) || Modifier.isProtected(modifiers)) {
                CHECKS.fail(nested.getSimpleName() + " is not static and hidden");
            }
            for (Field field : nested.getDeclaredFields()) {
                if (Modifier.isStatic(field.getModifiers()) && !Modifier.isFinal(field.getModifiers())) {
                    CHECKS.fail("the static field " + field.getName() + " is not final");
                }
            }
        }
    }
}
