import java.lang.reflect.Constructor;
import java.lang.reflect.Field;
import java.lang.reflect.Method;
import java.lang.reflect.Modifier;
import java.util.Arrays;
import java.util.Set;
import java.util.TreeSet;

/** The class shows the document's face, with its exceptions, and nothing more. */
public final class FaceTest {
    private static final String[] METHODS = {
        "int source() UnsupportedOperationException",
        "int event(int,int,int,int,long) IndexOutOfBoundsException,IllegalArgumentException,UnsupportedOperationException",
        "int need(int,int) IndexOutOfBoundsException,IllegalArgumentException,UnsupportedOperationException",
        "int settle() ",
        "int ring(int) ",
        "long offset(int) IndexOutOfBoundsException,IllegalStateException",
        "long bound(int,int) IndexOutOfBoundsException,IllegalStateException",
        "long corrected(int) IndexOutOfBoundsException,IllegalStateException",
        "int ordered(int,int) IndexOutOfBoundsException,IllegalStateException",
        "int implied(int,int) IndexOutOfBoundsException,IllegalStateException",
        "int correct(int,long) IndexOutOfBoundsException,IllegalArgumentException",
        "int ask(int,int) IllegalArgumentException",
    };

    public static void main(String[] args) {
        Check.due("public final", Modifier.PUBLIC | Modifier.FINAL, EventOrder.class.getModifiers());
        Check.due("NONE", -1, EventOrder.NONE);
        Check.due("FAR", Long.MAX_VALUE, EventOrder.FAR);
        Check.dueText("methods", new TreeSet<>(Arrays.asList(METHODS)).toString(), shownMethods().toString());
        Check.dueText("fields", "[long FAR, int NONE]", shownFields());
        Check.dueText("constructors", "[public EventOrder()]", shownConstructors());
        checkNestedClasses();
        Check.end();
    }

    private static Set<String> shownMethods() {
        Set<String> shown = new TreeSet<>();
        for (Method m : EventOrder.class.getDeclaredMethods()) {
            if (!Modifier.isPrivate(m.getModifiers())) {
                shown.add(m.getReturnType() + " " + m.getName() + "(" + names(m.getParameterTypes()) + ") "
                        + names(m.getExceptionTypes()));
            }
        }
        return shown;
    }

    private static String names(Class<?>[] types) {
        StringBuilder text = new StringBuilder();
        for (Class<?> type : types) {
            text.append(text.length() == 0 ? "" : ",").append(type.getSimpleName());
        }
        return text.toString();
    }

    private static String shownFields() {
        Set<String> shown = new TreeSet<>((a, b) -> a.split(" ")[1].compareTo(b.split(" ")[1]));
        for (Field f : EventOrder.class.getDeclaredFields()) {
            if (!Modifier.isPrivate(f.getModifiers())) {
                shown.add(f.getType() + " " + f.getName());
            }
        }
        return shown.toString();
    }

    private static String shownConstructors() {
        return Arrays.toString(EventOrder.class.getDeclaredConstructors());
    }

    private static void checkNestedClasses() {
        Set<String> face = new TreeSet<>();
        for (Method m : EventOrder.class.getDeclaredMethods()) {
            if (Modifier.isPublic(m.getModifiers())) {
                face.add(m.getName());
            }
        }
        for (Class<?> inner : EventOrder.class.getDeclaredClasses()) {
            Check.due(inner + " is static", 1, Modifier.isStatic(inner.getModifiers()) ? 1 : 0);
            Check.due(inner + " is shown", 0, inner.getModifiers() & (Modifier.PUBLIC | Modifier.PROTECTED));
            for (Method m : inner.getDeclaredMethods()) {
                Check.due(m + " bears a name of the face", 0, face.contains(m.getName()) ? 1 : 0);
            }
            for (Constructor<?> c : inner.getDeclaredConstructors()) {
                Check.due(c + " is shown", 0, c.getModifiers() & Modifier.PUBLIC);
            }
        }
    }
}
