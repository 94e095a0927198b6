import java.io.IOException;
import java.lang.reflect.Constructor;
import java.lang.reflect.Field;
import java.lang.reflect.Method;
import java.lang.reflect.Modifier;
import java.nio.charset.StandardCharsets;
import java.nio.file.Files;
import java.nio.file.Path;
import java.util.Arrays;
import java.util.HashSet;
import java.util.Set;
import java.util.TreeSet;

/** The public face, as the document has it, and the rule of the language about it. */
final class FaceTest {
    private static final Check check = new Check();
    private static final Path SOURCE = Path.of("src/main/java/PointMill.java");
    private static final String INDEX = "IndexOutOfBoundsException ";
    private static final String ARGUMENT = "IllegalArgumentException ";
    private static final String STATE = "IllegalStateException ";
    private static final String[] METHODS = {
        "int shape() " + STATE,
        "int add(int,int,int,int,int) " + INDEX + ARGUMENT + STATE,
        "int cut(int,int,int,int,int,int) " + INDEX + ARGUMENT + STATE,
        "int move(int,int) " + INDEX + ARGUMENT + STATE,
        "int inequality(int,int,int) " + INDEX + ARGUMENT,
        "boolean isPlace(int) " + INDEX,
        "long count(int,int) " + INDEX + ARGUMENT + STATE,
        "long countAnew(int,int) " + INDEX + ARGUMENT + STATE,
        "long blown(int,int,boolean) " + INDEX + ARGUMENT + STATE,
        "int best(int,int,int,int,int) " + INDEX + ARGUMENT + STATE,
        "int index(int,int,int,int) " + ARGUMENT,
        "int generator(int,int,int,int,int,boolean) " + INDEX + ARGUMENT,
        "int generatorAnew(int,int,int,int,int,boolean) " + INDEX + ARGUMENT,
        "int coin(int) " + ARGUMENT + STATE,
        "long ways(int) " + ARGUMENT,
        "int gap(int) " + INDEX + STATE,
        "int greatestGap() " + STATE,
        "int tables(int,int,int,int) " + ARGUMENT
    };

    public static void main(String[] args) throws IOException {
        classIsPublicAndFinal();
        methodsAreTheFace();
        constantsAreTheFace();
        innerClassesAreStatic();
        sectionsAreTheFace();
        check.end();
    }

    private static void classIsPublicAndFinal() {
        int modifiers = PointMill.class.getModifiers();
        check.isTrue("public and final", Modifier.isPublic(modifiers) && Modifier.isFinal(modifiers));
        Constructor<?>[] made = PointMill.class.getDeclaredConstructors();
        check.isTrue("one constructor", made.length == 1 && made[0].getParameterCount() == 0);
        check.isTrue("a public one", Modifier.isPublic(made[0].getModifiers()));
        check.equal("it throws nothing", 0, () -> made[0].getExceptionTypes().length);
    }

    private static String told(Method method) {
        StringBuilder text = new StringBuilder(method.getReturnType().getSimpleName());
        text.append(' ').append(method.getName()).append('(');
        for (int i = 0; i < method.getParameterCount(); i++) {
            text.append(i == 0 ? "" : ",").append(method.getParameterTypes()[i].getSimpleName());
        }
        text.append(") ");
        for (Class<?> thrown : method.getExceptionTypes()) {
            text.append(thrown.getSimpleName()).append(' ');
        }
        return text.toString();
    }

    private static void methodsAreTheFace() {
        Set<String> due = new TreeSet<>(Arrays.asList(METHODS));
        Set<String> got = new TreeSet<>();
        Set<String> publicNames = new HashSet<>();
        for (Method method : PointMill.class.getDeclaredMethods()) {
            if (!Modifier.isPrivate(method.getModifiers())) {
                got.add(told(method));
                publicNames.add(method.getName());
                check.isTrue(method + " is public", Modifier.isPublic(method.getModifiers()));
            }
        }
        check.isTrue("methods " + got, got.equals(due));
        for (Method method : PointMill.class.getDeclaredMethods()) {
            boolean isOther = Modifier.isPrivate(method.getModifiers());
            check.isTrue(method + " has a name of its own", !isOther || !publicNames.contains(method.getName()));
        }
    }

    private static void constantsAreTheFace() {
        check.equal("NONE", -1, () -> PointMill.NONE);
        check.equal("SWAP", 0, () -> PointMill.SWAP);
        check.equal("SLIDE", 1, () -> PointMill.SLIDE);
        check.equal("FLIP", 2, () -> PointMill.FLIP);
        Set<String> open = new TreeSet<>();
        for (Field field : PointMill.class.getDeclaredFields()) {
            int modifiers = field.getModifiers();
            if (!Modifier.isPrivate(modifiers)) {
                open.add(field.getName());
                check.isTrue(field + " is an int", field.getType() == int.class);
                check.isTrue(field + " is public", Modifier.isPublic(modifiers));
                check.isTrue(field + " is a constant", Modifier.isStatic(modifiers));
            }
            check.isTrue(field + " is final if static", !Modifier.isStatic(modifiers) || Modifier.isFinal(modifiers));
        }
        check.isTrue("constants " + open, open.equals(new TreeSet<>(Arrays.asList("NONE", "SWAP", "SLIDE", "FLIP"))));
    }

    private static void sectionsAreTheFace() throws IOException {
        check.sentence("Ahead of the calls the interface says: ---- shapes; ---- cones; ---- coins, tables");
        String[] due = {
            "// ---- shapes", "shape", "add", "cut", "move", "inequality", "isPlace", "count", "countAnew", "blown",
            "best",
            "// ---- cones", "index", "generator", "generatorAnew",
            "// ---- coins, tables", "coin", "ways", "gap", "greatestGap", "tables"
        };
        StringBuilder got = new StringBuilder();
        for (String line : Files.readAllLines(SOURCE, StandardCharsets.UTF_8)) {
            boolean isMethod = line.matches("    public (int|long|boolean) [a-zA-Z]+\\(.*");
            boolean isHead = line.startsWith("    // ---- ") && !line.contains("arguments");
            String told = isMethod ? line.substring(0, line.indexOf('(')) : line;
            got.append(isMethod || isHead ? told.substring(isMethod ? told.lastIndexOf(' ') : 0).trim() + "; " : "");
        }
        check.same("sections", String.join("; ", due) + "; ", got.toString());
    }

    private static void innerClassesAreStatic() {
        for (Class<?> inner : PointMill.class.getDeclaredClasses()) {
            int modifiers = inner.getModifiers();
            check.isTrue(inner + " is static", Modifier.isStatic(modifiers));
            check.isTrue(inner + " is hidden", !Modifier.isPublic(modifiers) && !Modifier.isProtected(modifiers));
        }
    }
}
