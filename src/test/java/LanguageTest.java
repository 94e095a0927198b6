import java.io.DataInputStream;
import java.io.IOException;
import java.io.InputStream;
import java.lang.reflect.Constructor;
import java.lang.reflect.Field;
import java.lang.reflect.Method;
import java.lang.reflect.Modifier;
import java.nio.charset.StandardCharsets;
import java.nio.file.Files;
import java.nio.file.Path;
import java.util.ArrayList;
import java.util.Arrays;
import java.util.List;
import java.util.Set;
import java.util.TreeSet;

/** What can be seen of LANGUAGE.md in the file of the class and in what javac makes of it. */
final class LanguageTest {
    private static final Check check = new Check();
    private static final Path SOURCE = Path.of("src/main/java/PointMill.java");
    private static final int MOST_CLASSES = 12;
    private static final int MOST_FIELDS = 20;
    private static final int MOST_PARAMETERS = 7;
    private static final int MOST_LINES = 60;
    /** Words that no line of the program has, outside its comments. */
    private static final String[] NO_WORDS = {
        "package ", "import java.", "->", "::", "synchronized", "assert ", "finally", "Exact(", "getMessage", "catch (",
        "native ", "volatile ", "transient ", "extends Exception", "extends RuntimeException", "hashCode", "toString",
        "Throwable", "ArrayIndexOutOfBounds", "NullPointer", "ClassCast", "NegativeArraySize", "ArrayStore", "static {"
    };
    /** What the program may call beside its own methods. Others of the language's list may come here when used. */
    private static final Set<String> LIBRARY = new TreeSet<>(Arrays.asList(
            "java/lang/Object.<init>", "java/lang/IllegalStateException.<init>",
            "java/lang/IllegalArgumentException.<init>", "java/lang/IndexOutOfBoundsException.<init>",
            "java/lang/Math.min", "java/lang/Math.max", "java/lang/Math.abs", "java/lang/Math.floorDiv",
            "java/lang/Math.floorMod", "java/lang/Long.bitCount", "java/lang/System.arraycopy",
            "java/util/Arrays.copyOf", "java/util/Arrays.copyOfRange", "java/util/Arrays.fill"));
    private static final Set<Class<?>> TYPES = Set.of(
            int.class, long.class, short.class, byte.class, char.class, boolean.class, String.class);

    public static void main(String[] args) throws IOException {
        List<String> lines = Files.readAllLines(SOURCE, StandardCharsets.UTF_8);
        signsAreThoseOfRule4(lines);
        wordsAreAllowed(lines);
        methodsAreShort(lines);
        List<Class<?>> classes = new ArrayList<>();
        collect(PointMill.class, classes);
        check.isTrue("classes: " + classes.size(), classes.size() > 1 && classes.size() <= MOST_CLASSES);
        for (Class<?> each : classes) {
            fieldsAreAllowed(each);
            methodsAreAllowed(each);
            callsAreAllowed(each);
        }
        check.end();
    }

    private static void collect(Class<?> outer, List<Class<?>> classes) {
        classes.add(outer);
        for (Class<?> inner : outer.getDeclaredClasses()) {
            collect(inner, classes);
        }
    }

    private static void signsAreThoseOfRule4(List<String> lines) {
        check.sentence("Rule 4: signs are 1 to 127");
        for (String line : lines) {
            check.isTrue(line, line.chars().allMatch(sign -> sign >= 1 && sign <= 127));
        }
    }

    private static boolean isComment(String line) {
        return line.startsWith("//") || line.startsWith("*") || line.startsWith("/*");
    }

    private static void wordsAreAllowed(List<String> lines) {
        check.sentence("Rules 3, 4, 5 and 6: what the program does without");
        for (String line : lines) {
            for (String word : NO_WORDS) {
                check.isTrue(line + ": " + word, isComment(line.trim()) || !line.contains(word));
            }
        }
    }

    /** A method begins with a line that has a round bracket, and ends with a curly one that stands as far in. */
    private static void methodsAreShort(List<String> lines) {
        check.sentence("Rule 11: methods stay short, some sixty lines");
        int found = 0;
        for (int i = 0; i < lines.size(); i++) {
            String line = lines.get(i);
            String depth = line.startsWith("        ") ? "        " : "    ";
            boolean isHead = line.matches("(    |        )[a-z].*\\(.*") && !line.endsWith(";");
            if (isHead && !line.matches(" *(for|if|while|switch|return) .*")) {
                int end = i;
                while (end < lines.size() && !lines.get(end).equals(depth + "}")) {
                    end++;
                }
                int size = end - i + 1;
                check.isTrue(line.trim() + " has " + size + " lines", size <= MOST_LINES);
                found++;
            }
        }
        check.isTrue("methods found: " + found, found > 60);
    }

    private static void fieldsAreAllowed(Class<?> owner) {
        check.sentence("Rules 3, 5 and 11: fields, their types and how many");
        int found = 0;
        for (Field field : owner.getDeclaredFields()) {
            int modifiers = field.getModifiers();
            check.isTrue(field + " has an allowed type", isAllowed(field.getType(), 2));
            if (Modifier.isStatic(modifiers)) {
                check.isTrue(field + " is final", Modifier.isFinal(modifiers));
            } else {
                found++;
                check.isTrue(field + " is private", Modifier.isPrivate(modifiers));
            }
        }
        check.isTrue(owner + " has " + found + " fields", found <= MOST_FIELDS);
    }

    private static boolean isAllowed(Class<?> type, int depth) {
        if (type.isArray()) {
            boolean isOwn = isOwn(type.getComponentType().getName());
            return depth > 0 && (isOwn || isAllowed(type.getComponentType(), depth - 1));
        }
        return TYPES.contains(type) || isOwn(type.getName());
    }

    private static boolean isOwn(String name) {
        return name.equals("PointMill") || name.startsWith("PointMill$");
    }

    private static void methodsAreAllowed(Class<?> owner) {
        check.sentence("Rules 1 and 11: at most seven parameters; no other method has the name of a public one");
        Set<String> face = new TreeSet<>();
        for (Method method : PointMill.class.getMethods()) {
            face.add(method.getName());
        }
        for (Method method : owner.getDeclaredMethods()) {
            boolean isFace = owner == PointMill.class && Modifier.isPublic(method.getModifiers());
            check.isTrue(method + " has few parameters", method.getParameterCount() <= MOST_PARAMETERS);
            check.isTrue(method + " has a name of its own", isFace || !face.contains(method.getName()));
            check.isTrue(method + " is written by hand", !method.isSynthetic());
        }
        for (Constructor<?> made : owner.getDeclaredConstructors()) {
            check.isTrue(made + " has few parameters", made.getParameterCount() <= MOST_PARAMETERS);
        }
    }

    private static void callsAreAllowed(Class<?> owner) throws IOException {
        check.sentence("Rules 3, 4 and 6: the library, only what stands there");
        String name = owner.getName() + ".class";
        try (InputStream bytes = owner.getResourceAsStream(name)) {
            for (String call : calls(new DataInputStream(bytes))) {
                check.isTrue(owner + " calls " + call, isOwn(call.split("\\.")[0]) || LIBRARY.contains(call));
            }
        }
    }

    /** The methods that a class calls, from the constants of its class file; and "dynamic" if one is made by lambda. */
    private static List<String> calls(DataInputStream file) throws IOException {
        file.readLong();
        int size = file.readUnsignedShort();
        String[] texts = new String[size];
        int[][] pairs = new int[size][];
        int[] kinds = new int[size];
        for (int i = 1; i < size; i++) {
            int kind = file.readUnsignedByte();
            kinds[i] = kind;
            if (kind == 1) {
                texts[i] = file.readUTF();
            } else if (kind == 5 || kind == 6) {
                file.readLong();
                i++;
            } else if (kind == 7 || kind == 8 || kind == 16 || kind == 19 || kind == 20) {
                pairs[i] = new int[] {file.readUnsignedShort(), 0};
            } else if (kind == 15) {
                pairs[i] = new int[] {file.readUnsignedByte(), file.readUnsignedShort()};
            } else {
                pairs[i] = new int[] {file.readUnsignedShort(), file.readUnsignedShort()};
            }
        }
        List<String> found = new ArrayList<>();
        for (int i = 1; i < size; i++) {
            if (kinds[i] == 10 || kinds[i] == 11) {
                String owner = texts[pairs[pairs[i][0]][0]];
                found.add(owner + "." + texts[pairs[pairs[i][1]][0]]);
            } else if (kinds[i] == 17 || kinds[i] == 18) {
                found.add("dynamic");
            }
        }
        return found;
    }
}
