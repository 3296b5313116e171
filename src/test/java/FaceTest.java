import java.lang.reflect.Constructor;
import java.lang.reflect.Field;
import java.lang.reflect.Method;
import java.lang.reflect.Modifier;
import java.util.ArrayList;
import java.util.Arrays;
import java.util.HashSet;
import java.util.List;
import java.util.Set;
import java.util.TreeSet;

/** The class shows the document's face and nothing else (rules 1, 5 and 11 of LANGUAGE.md). */
public final class FaceTest {
    private static final String INDEX = "IndexOutOfBoundsException";
    private static final String ARGUMENT = "IllegalArgumentException";
    private static final String STATE = "IllegalStateException";

    public static void main(String[] args) {
        Class<FieldFilter> face = FieldFilter.class;
        Check.that("public and final", Modifier.isPublic(face.getModifiers()) && Modifier.isFinal(face.getModifiers()));
        Check.that("methods are " + shown(face), shown(face).equals(due()));
        Check.that("fields are " + shownFields(face), shownFields(face).equals(new TreeSet<>(
                Arrays.asList("NONE", "F00", "F01", "F10", "F11", "Q00", "Q01", "Q11"))));
        Constructor<?>[] constructors = face.getDeclaredConstructors();
        Check.that("one public constructor without parameters", constructors.length == 1
                && Modifier.isPublic(constructors[0].getModifiers()) && constructors[0].getParameterCount() == 0);
        hiddenNames(face);
        classes(face);
        Check.close("FaceTest");
    }

    private static Set<String> due() {
        return new TreeSet<>(Arrays.asList(
                "int model 0 " + STATE,
                "int entry 3 " + INDEX + " " + ARGUMENT,
                "int begin 6 " + INDEX + " " + ARGUMENT + " " + STATE,
                "int gate 2 " + INDEX + " " + ARGUMENT,
                "int predict 1 " + INDEX + " " + STATE,
                "int measure 5 " + INDEX + " " + ARGUMENT + " " + STATE,
                "int late 6 " + INDEX + " " + ARGUMENT + " " + STATE,
                "void drop 2 " + INDEX + " " + STATE,
                "int of 2 " + INDEX + " " + ARGUMENT,
                "int ofMeasurement 3 " + INDEX + " " + ARGUMENT,
                "int gain 5 " + INDEX + " " + ARGUMENT + " " + STATE,
                "int information 2 " + INDEX + " " + ARGUMENT + " " + STATE,
                "int anew 2 " + INDEX + " " + ARGUMENT + " " + STATE,
                "int smoothed 3 " + INDEX + " " + ARGUMENT + " " + STATE,
                "int ahead 3 " + INDEX + " " + ARGUMENT,
                "int aheadAnew 3 " + INDEX + " " + ARGUMENT));
    }

    private static Set<String> shown(Class<?> face) {
        Set<String> found = new TreeSet<>();
        for (Method method : face.getDeclaredMethods()) {
            if (Modifier.isPrivate(method.getModifiers()) || method.isSynthetic()) {
                continue;
            }
            StringBuilder line = new StringBuilder();
            line.append(method.getReturnType().getSimpleName()).append(' ').append(method.getName());
            line.append(' ').append(method.getParameterCount());
            for (Class<?> parameter : method.getParameterTypes()) {
                line.append(parameter == int.class ? "" : " not int");
            }
            for (Class<?> exception : method.getExceptionTypes()) {
                line.append(' ').append(exception.getSimpleName());
            }
            line.append(Modifier.isStatic(method.getModifiers()) ? " static" : "");
            found.add(line.toString());
        }
        return found;
    }

    private static Set<String> shownFields(Class<?> face) {
        Set<String> found = new TreeSet<>();
        for (Field field : face.getDeclaredFields()) {
            boolean isStatic = Modifier.isStatic(field.getModifiers());
            Check.that(field.getName() + " is static and not final",
                    !isStatic || Modifier.isFinal(field.getModifiers()));
            if (!Modifier.isPrivate(field.getModifiers())) {
                Check.that(field.getName() + " is a public constant int",
                        isStatic && Modifier.isPublic(field.getModifiers()) && field.getType() == int.class);
                found.add(field.getName());
            }
        }
        return found;
    }

    private static void hiddenNames(Class<?> face) {
        Set<String> open = new HashSet<>();
        for (Method method : face.getDeclaredMethods()) {
            if (Modifier.isPublic(method.getModifiers())) {
                open.add(method.getName());
            }
        }
        List<Class<?>> all = new ArrayList<>(Arrays.asList(face.getDeclaredClasses()));
        all.add(face);
        for (Class<?> one : all) {
            for (Method method : one.getDeclaredMethods()) {
                Check.that(one.getSimpleName() + "." + method.getName() + " bears the name of a public method",
                        Modifier.isPublic(method.getModifiers()) || !open.contains(method.getName()));
                Check.that(method.getName() + " has over seven parameters", method.getParameterCount() <= 7);
            }
        }
    }

    private static void classes(Class<?> face) {
        Check.that("over twelve classes", face.getDeclaredClasses().length < 12);
        for (Class<?> inside : face.getDeclaredClasses()) {
            int modifiers = inside.getModifiers();
            Check.that(inside.getSimpleName() + " is static and not public", Modifier.isStatic(modifiers)
                    && !Modifier.isPublic(modifiers) && !Modifier.isProtected(modifiers));
            Check.that(inside.getSimpleName() + " has over twenty fields", inside.getDeclaredFields().length <= 20);
            for (Field field : inside.getDeclaredFields()) {
                Check.that(inside.getSimpleName() + "." + field.getName() + " is static state",
                        !Modifier.isStatic(field.getModifiers()) || Modifier.isFinal(field.getModifiers()));
            }
        }
    }
}
