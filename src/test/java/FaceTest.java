import java.lang.reflect.Field;
import java.lang.reflect.Method;
import java.lang.reflect.Modifier;
import java.util.Arrays;
import java.util.List;
import java.util.Set;
import java.util.TreeSet;

/** The face of the document, and no other member that is not private. */
public final class FaceTest {
    private static final String ARGUMENT = "java.lang.IllegalArgumentException";
    private static final String STATE = "java.lang.IllegalStateException";
    private static final String ELEMENT = "java.util.NoSuchElementException";

    public static void main(String[] args) {
        Class<?> face = NodeServices.class;
        Run.check("the class is public and final", face.getModifiers() & (Modifier.PUBLIC | Modifier.FINAL),
            Modifier.PUBLIC | Modifier.FINAL);
        Run.check("constructors", Arrays.toString(face.getDeclaredConstructors()), "[public NodeServices(int,int)]");
        Run.check("methods", visibleMethods(face), new TreeSet<>(List.of(
            method("void", "want(int,int)", ARGUMENT, STATE),
            method("void", "leave(int,int)", ARGUMENT, STATE),
            method("void", "start(int)", ARGUMENT, STATE),
            method("void", "begin(int)", ARGUMENT, STATE),
            method("void", "spread(int,int)", ARGUMENT, STATE),
            method("void", "rest(int)", ARGUMENT, STATE),
            method("int", "deliver(int,int)", ARGUMENT, ELEMENT),
            method("int", "first(int,int)", ARGUMENT),
            method("int", "waiting(int,int)", ARGUMENT),
            method("int", "about(int,int)", ARGUMENT),
            method("int", "more(int,int)", ARGUMENT),
            method("int", "count(int)"))));
        for (Field field : face.getDeclaredFields()) {
            Run.check(field + " is private", Modifier.isPrivate(field.getModifiers()), true);
        }
        for (Class<?> inside : face.getDeclaredClasses()) {
            int modifiers = inside.getModifiers();
            Run.check(inside + " is static", Modifier.isStatic(modifiers), true);
            Run.check(inside + " is seen", Modifier.isPublic(modifiers) || Modifier.isProtected(modifiers), false);
        }
        Run.end();
    }

    private static String method(String type, String nameAndParameters, String... thrown) {
        String text = "public " + type + " NodeServices." + nameAndParameters;
        return thrown.length == 0 ? text : text + " throws " + String.join(",", thrown);
    }

    private static Set<String> visibleMethods(Class<?> face) {
        Set<String> found = new TreeSet<>();
        for (Method method : face.getDeclaredMethods()) {
            if (!Modifier.isPrivate(method.getModifiers())) {
                found.add(method.toString());
            }
        }
        return found;
    }
}
