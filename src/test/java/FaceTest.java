import java.io.IOException;
import java.lang.reflect.Constructor;
import java.lang.reflect.Executable;
import java.lang.reflect.Field;
import java.lang.reflect.Method;
import java.lang.reflect.Modifier;
import java.nio.file.Files;
import java.nio.file.Path;
import java.util.Set;
import java.util.StringJoiner;
import java.util.TreeSet;

/** The public face of the document, and rule 1 of LANGUAGE.md: nothing else can be seen. */
public final class FaceTest {
    private static final Checks CHECKS = new Checks("FaceTest");
    private static final Path DOCUMENT = Path.of("..", "shared", "DOC.md");
    private static final String CLASS_LINE = "public final class SheetKernel {";
    private static final Set<String> FACE = Set.of(
        "public static final int REFUSED = -1;",
        "public static final int NONE = -2;",
        "public static final int FULL = -3;",
        "public SheetKernel();",
        "public int spawn();",
        "public int poke(int p, int a, int w);",
        "public int peek(int p, int a);",
        "public boolean kill(int p);",
        "public int run(int n);",
        "public int process(int p, int what);",
        "public int page(int p, int k, int what);",
        "public int printed(int k);",
        "public int count(int what);");

    public static void main(String[] args) throws IOException, IllegalAccessException {
        if (Files.exists(DOCUMENT)) {
            same("the document's lines", FACE, linesOf(Files.readString(DOCUMENT)));
        } else {
            System.out.println("FaceTest: " + DOCUMENT + " is not there to be compared");
        }
        same("what can be seen of the class", withoutNames(FACE), seen());
        theClass();
        staticFieldsAreFinal();
        noPrivateMethodIsNamedAsAPublicOne();
        classesInside();
        CHECKS.end();
    }

    /** The lines of the document's block from that of the class to the brace that ends it. */
    private static Set<String> linesOf(String document) {
        Set<String> lines = new TreeSet<>();
        int start = document.indexOf(CLASS_LINE);
        CHECKS.due("the document has " + CLASS_LINE, true, start >= 0);
        int end = document.indexOf("\n}", start);
        if (start >= 0 && end >= 0) {
            for (String line : document.substring(start + CLASS_LINE.length(), end).strip().split("\n")) {
                lines.add(line.strip());
            }
        }
        return lines;
    }

    private static Set<String> withoutNames(Set<String> lines) {
        Set<String> bare = new TreeSet<>();
        for (String line : lines) {
            bare.add(line.replaceAll("int \\w+(?=[,)])", "int"));
        }
        return bare;
    }

    private static Set<String> seen() throws IllegalAccessException {
        Set<String> lines = new TreeSet<>();
        for (Field field : SheetKernel.class.getDeclaredFields()) {
            int flags = field.getModifiers();
            if (!Modifier.isPrivate(flags)) {
                String value = Modifier.isStatic(flags) ? " = " + field.get(null) : "";
                lines.add(flagsOf(flags) + field.getType() + " " + field.getName() + value + ";");
            }
        }
        for (Constructor<?> constructor : SheetKernel.class.getDeclaredConstructors()) {
            if (!Modifier.isPrivate(constructor.getModifiers())) {
                lines.add(flagsOf(constructor.getModifiers()) + "SheetKernel" + parametersOf(constructor));
            }
        }
        for (Method method : SheetKernel.class.getDeclaredMethods()) {
            if (!Modifier.isPrivate(method.getModifiers())) {
                lines.add(flagsOf(method.getModifiers()) + method.getReturnType() + " " + method.getName()
                    + parametersOf(method));
            }
        }
        return lines;
    }

    private static String flagsOf(int modifiers) {
        return modifiers == 0 ? "" : Modifier.toString(modifiers) + " ";
    }

    private static String parametersOf(Executable executable) {
        StringJoiner types = new StringJoiner(", ", "(", ");");
        for (Class<?> type : executable.getParameterTypes()) {
            types.add(type.toString());
        }
        return types.toString();
    }

    private static void theClass() {
        int flags = SheetKernel.class.getModifiers();
        CHECKS.due("the class is public and final", true, flags == (Modifier.PUBLIC | Modifier.FINAL));
        CHECKS.due("it has no package", true, SheetKernel.class.getPackageName().isEmpty());
        CHECKS.due("it extends nothing", true, SheetKernel.class.getSuperclass() == Object.class);
    }

    private static void staticFieldsAreFinal() {
        for (Field field : SheetKernel.class.getDeclaredFields()) {
            if (Modifier.isStatic(field.getModifiers())) {
                CHECKS.due(field.getName() + " is final", true, Modifier.isFinal(field.getModifiers()));
            }
        }
    }

    private static void noPrivateMethodIsNamedAsAPublicOne() {
        Set<String> open = new TreeSet<>();
        Set<String> hidden = new TreeSet<>();
        for (Method method : SheetKernel.class.getDeclaredMethods()) {
            (Modifier.isPrivate(method.getModifiers()) ? hidden : open).add(method.getName());
        }
        for (String name : open) {
            CHECKS.due("no private " + name, false, hidden.contains(name));
        }
    }

    private static void classesInside() {
        for (Class<?> inside : SheetKernel.class.getDeclaredClasses()) {
            int flags = inside.getModifiers();
            CHECKS.due(inside + " is static", true, Modifier.isStatic(flags));
            CHECKS.due(inside + " is hidden", false, Modifier.isPublic(flags) || Modifier.isProtected(flags));
        }
    }

    private static void same(String what, Set<String> due, Set<String> got) {
        if (!got.equals(due)) {
            System.out.println("FaceTest: due are " + new TreeSet<>(due) + ", there are " + got);
        }
        CHECKS.due(what, true, got.equals(due));
    }
}
