import java.lang.reflect.Constructor;
import java.lang.reflect.Field;
import java.lang.reflect.Method;
import java.lang.reflect.Modifier;
import java.util.Arrays;
import java.util.TreeSet;

/** The public face of the document, and that nothing else of the class can be seen. */
public final class FaceTest {
    private static final String[] FACE = {
        "int begin() IllegalStateException",
        "int write(int,int,int,int) IllegalArgumentException NoSuchElementException"
            + " IllegalStateException UnsupportedOperationException",
        "int request(int) IllegalArgumentException NoSuchElementException"
            + " IllegalStateException UnsupportedOperationException",
        "int refuse(int,int) IllegalArgumentException NoSuchElementException"
            + " IllegalStateException UnsupportedOperationException",
        "int take(int,int) IllegalArgumentException NoSuchElementException"
            + " IllegalStateException UnsupportedOperationException",
        "int deliver(int,boolean) IndexOutOfBoundsException",
        "int lose(int) IndexOutOfBoundsException",
        "boolean up(int,int,boolean) IllegalArgumentException",
        "int text(int,int) IllegalArgumentException IndexOutOfBoundsException",
        "int value(int,int) IllegalArgumentException",
        "int lock(int,int) IllegalArgumentException",
        "int state(int,int) IllegalArgumentException NoSuchElementException",
        "int outcome(int,int) IllegalArgumentException NoSuchElementException"
            + " IllegalStateException",
        "int taken(int,int,int,boolean) IllegalArgumentException NoSuchElementException",
        "int count(int) IllegalArgumentException",
    };

    public static void main(String[] args) {
        Class<?> face = PaxosCommit.class;
        Checks.due("public and final", face.getModifiers(), Modifier.PUBLIC | Modifier.FINAL);
        TreeSet<String> open = new TreeSet<>();
        TreeSet<String> names = new TreeSet<>();
        for (Method method : face.getDeclaredMethods()) {
            if (!Modifier.isPrivate(method.getModifiers())) {
                open.add(describe(method));
                names.add(method.getName());
            }
        }
        Checks.due("methods", String.join("\n", open),
            String.join("\n", new TreeSet<>(Arrays.asList(FACE))));
        for (Constructor<?> constructor : face.getDeclaredConstructors()) {
            Checks.due("constructor", constructor.toString(), "public PaxosCommit(int)");
        }
        for (Field field : face.getDeclaredFields()) {
            Checks.due("private " + field, Modifier.isPrivate(field.getModifiers()), true);
        }
        for (Class<?> inside : face.getDeclaredClasses()) {
            checkInside(inside, names);
        }
        for (Method method : face.getDeclaredMethods()) {
            if (Modifier.isPrivate(method.getModifiers())) {
                Checks.due("no public name " + method, names.contains(method.getName()), false);
            }
        }
        Checks.end();
    }

    private static String describe(Method method) {
        StringBuilder line = new StringBuilder();
        line.append(method.getReturnType().getSimpleName()).append(' ').append(method.getName());
        String[] parameters = Arrays.stream(method.getParameterTypes())
            .map(Class::getSimpleName).toArray(String[]::new);
        line.append('(').append(String.join(",", parameters)).append(')');
        for (Class<?> thrown : method.getExceptionTypes()) {
            line.append(' ').append(thrown.getSimpleName());
        }
        return line.toString();
    }

    private static void checkInside(Class<?> inside, TreeSet<String> names) {
        int modifiers = inside.getModifiers();
        Checks.due("static " + inside, Modifier.isStatic(modifiers), true);
        Checks.due("not public " + inside, Modifier.isPublic(modifiers), false);
        for (Method method : inside.getDeclaredMethods()) {
            Checks.due("no public name " + method, names.contains(method.getName()), false);
        }
    }
}
