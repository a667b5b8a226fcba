import java.lang.reflect.Constructor;
import java.lang.reflect.Field;
import java.lang.reflect.Method;
import java.lang.reflect.Modifier;
import java.util.ArrayList;
import java.util.Arrays;
import java.util.List;
import java.util.Set;
import java.util.TreeSet;

/** The public face of the document, and the rules 1, 5 and 11 of LANGUAGE.md as far as reflection sees them. */
public final class FaceTest {
    private static final String[] FACE = {
        "along(II) B", "bestJob(II) BS", "bestTime(I) BS", "carry(II) BS", "clean(I) BS", "clock(I) B", "done()",
        "drive(I) AS", "files(I) B", "insertedTime(I) BS", "inventory()", "job(III) BAS", "lose(I) BS", "mount(II) BS",
        "next()", "placeOf(I) B", "read(II) BS", "stands(I) B", "start(II) B", "tape(II) AS", "triedTime(I) BS",
        "unmount(I) BS", "waiting(I) B", "work(I) BS", "write(II) BAS"
    };

    public static void main(String[] args) {
        constants();
        face();
        membersOfAllClasses();
        Check.end();
    }

    private static void constants() {
        Check.due("NONE", TapeRobotics.NONE, -1);
        Check.due("SWIFT", TapeRobotics.SWIFT, 0);
        Check.due("STEADY", TapeRobotics.STEADY, 1);
    }

    private static void truth(String what, boolean holds) {
        Check.due(what, holds ? 1 : 0, 1);
    }

    private static boolean isPublic(int modifiers) {
        return Modifier.isPublic(modifiers);
    }

    /** Name, parameters and the first letters of what it throws: B of IndexOutOfBounds, A and S of the others. */
    private static String form(Method method) {
        StringBuilder text = new StringBuilder(method.getName()).append('(');
        for (Class<?> parameter : method.getParameterTypes()) {
            text.append(parameter == int.class ? 'I' : '?');
        }
        text.append(')');
        String thrown = "";
        for (Class<?> each : method.getExceptionTypes()) {
            thrown += each == IndexOutOfBoundsException.class ? "B" : each == IllegalArgumentException.class ? "A"
                    : each == IllegalStateException.class ? "S" : "?";
        }
        return thrown.isEmpty() ? text.toString() : text.append(' ').append(thrown).toString();
    }

    private static void face() {
        Class<?> face = TapeRobotics.class;
        truth("public final", isPublic(face.getModifiers()) && Modifier.isFinal(face.getModifiers()));
        truth("no class above", face.getSuperclass() == Object.class && face.getInterfaces().length == 0);
        Set<String> found = new TreeSet<>();
        Set<String> names = new TreeSet<>();
        for (Method method : face.getDeclaredMethods()) {
            if (isPublic(method.getModifiers())) {
                found.add(form(method));
                names.add(method.getName());
                truth(method + " answers an int", method.getReturnType() == int.class);
                truth(method + " is no static one", !Modifier.isStatic(method.getModifiers()));
            } else {
                truth(method + " is private", Modifier.isPrivate(method.getModifiers()));
            }
        }
        truth("the face is " + found, found.equals(new TreeSet<>(Arrays.asList(FACE))));
        for (Class<?> each : allClasses()) {
            for (Method method : each.getDeclaredMethods()) {
                truth(method + " bears no public name", isPublic(method.getModifiers()) || !names.contains(method.getName()));
            }
        }
        Constructor<?>[] constructors = face.getDeclaredConstructors();
        truth("one public constructor without parameters", constructors.length == 1
                && isPublic(constructors[0].getModifiers()) && constructors[0].getParameterCount() == 0);
        Set<String> fields = new TreeSet<>();
        for (Field field : face.getDeclaredFields()) {
            if (isPublic(field.getModifiers())) {
                fields.add(field.getName());
            } else {
                truth(field + " is private", Modifier.isPrivate(field.getModifiers()));
            }
        }
        truth("the constants are " + fields, fields.equals(Set.of("NONE", "SWIFT", "STEADY")));
    }

    private static List<Class<?>> allClasses() {
        List<Class<?>> all = new ArrayList<>();
        all.add(TapeRobotics.class);
        all.addAll(Arrays.asList(TapeRobotics.class.getDeclaredClasses()));
        return all;
    }

    private static void membersOfAllClasses() {
        List<Class<?>> all = allClasses();
        truth("at most 12 classes", all.size() <= 12);
        for (Class<?> each : all) {
            truth(each + " is static", each == TapeRobotics.class || Modifier.isStatic(each.getModifiers()));
            int fields = 0;
            for (Field field : each.getDeclaredFields()) {
                boolean isStatic = Modifier.isStatic(field.getModifiers());
                truth(field + " is final or of an object", !isStatic || Modifier.isFinal(field.getModifiers()));
                fields += isStatic ? 0 : 1;
            }
            truth(each + " has at most 20 fields", fields <= 20);
            for (Method method : each.getDeclaredMethods()) {
                truth(method + " takes at most 7 parameters", method.getParameterCount() <= 7);
            }
        }
    }
}
