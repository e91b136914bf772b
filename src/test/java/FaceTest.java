import java.lang.reflect.Constructor;
import java.lang.reflect.Field;
import java.lang.reflect.Method;
import java.lang.reflect.Modifier;
import java.util.Arrays;
import java.util.Set;
import java.util.TreeSet;

/** The public face of the document, and rule 1 of LANGUAGE.md: nothing else can be seen. */
public final class FaceTest {
    private static final Checks CHECKS = new Checks("FaceTest");

    public static void main(String[] args) {
        int flags = SheetKernel.class.getModifiers();
        CHECKS.due("the class is public and final", true, Modifier.isPublic(flags) && Modifier.isFinal(flags));
        methods();
        fields();
        constructors();
        classesInside();
        CHECKS.end();
    }

    private static void methods() {
        Set<String> due = new TreeSet<>(Arrays.asList("int spawn[]", "int poke[int, int, int]", "int peek[int, int]",
            "boolean kill[int]", "int run[int]", "int process[int, int]", "int page[int, int, int]",
            "int printed[int]", "int count[int]"));
        Set<String> open = new TreeSet<>();
        Set<String> hidden = new TreeSet<>();
        for (Method method : SheetKernel.class.getDeclaredMethods()) {
            String parameters = Arrays.toString(method.getParameterTypes());
            if (Modifier.isPrivate(method.getModifiers())) {
                hidden.add(method.getName());
            } else {
                boolean plain = method.getModifiers() == Modifier.PUBLIC;
                CHECKS.due(method.getName() + " is public and no more", true, plain);
                open.add(method.getReturnType() + " " + method.getName() + parameters);
            }
        }
        same("methods", due, open);
        for (String method : due) {
            String name = method.substring(method.indexOf(' ') + 1, method.indexOf('['));
            CHECKS.due("no private " + name, false, hidden.contains(name));
        }
    }

    private static void fields() {
        Set<String> due = new TreeSet<>(Arrays.asList("REFUSED", "NONE", "FULL"));
        Set<String> open = new TreeSet<>();
        for (Field field : SheetKernel.class.getDeclaredFields()) {
            int flags = field.getModifiers();
            if (!Modifier.isPrivate(flags)) {
                open.add(field.getName());
                CHECKS.due(field.getName() + " is an int", true, field.getType() == int.class);
                CHECKS.due(field.getName() + " is public", true, Modifier.isPublic(flags));
            }
            if (Modifier.isStatic(flags)) {
                CHECKS.due(field.getName() + " is final", true, Modifier.isFinal(flags));
            }
        }
        same("fields", due, open);
    }

    private static void constructors() {
        Constructor<?>[] all = SheetKernel.class.getDeclaredConstructors();
        CHECKS.due("constructors", 1, all.length);
        CHECKS.due("parameters", 0, all[0].getParameterCount());
        CHECKS.due("public", true, Modifier.isPublic(all[0].getModifiers()));
    }

    private static void classesInside() {
        for (Class<?> inside : SheetKernel.class.getDeclaredClasses()) {
            int flags = inside.getModifiers();
            CHECKS.due(inside + " is static", true, Modifier.isStatic(flags));
            CHECKS.due(inside + " is hidden", false, Modifier.isPublic(flags) || Modifier.isProtected(flags));
        }
    }

    private static void same(String what, Set<String> due, Set<String> open) {
        if (!due.equals(open)) {
            System.out.println("FaceTest: due are " + due + ", there are " + open);
        }
        CHECKS.due(what + " as in the document", true, due.equals(open));
    }
}
