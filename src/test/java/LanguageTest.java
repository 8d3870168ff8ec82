import java.io.IOException;
import java.lang.reflect.Executable;
import java.lang.reflect.Field;
import java.lang.reflect.Modifier;
import java.nio.file.Files;
import java.nio.file.Path;
import java.util.ArrayList;
import java.util.Arrays;
import java.util.List;
import java.util.Set;
import java.util.TreeSet;
import java.util.regex.Matcher;
import java.util.regex.Pattern;

/** The rules of LANGUAGE.md that can be told from the text of the class, or from its parts; each by its number. */
public final class LanguageTest {
    private static final Path SOURCE = Path.of("src/main/java/GoatDoors.java");
    private static final Pattern APART =
            Pattern.compile("/\\*.*?\\*/|//[^\n]*|\"(\\\\.|[^\"\\\\])*\"|'(\\\\.|[^'\\\\])+'", Pattern.DOTALL);
    private static final Pattern METHOD_BEGINS = Pattern.compile("( {4}| {8})\\w.*\\) (throws .*)?\\{");

    private static final Set<String> IMPORTS = Set.of("java.util.NoSuchElementException", "java.util.ArrayList",
            "java.util.List", "java.util.Iterator", "java.util.Arrays");
    private static final Set<String> FUNCTIONS = Set.of("Math.max", "Math.min", "Math.abs", "Math.floorDiv",
            "Math.floorMod", "Integer.bitCount", "Integer.compare", "Integer.max", "Integer.min", "Long.compare",
            "Long.bitCount", "Long.max", "Long.min", "System.arraycopy", "Arrays.copyOf", "Arrays.copyOfRange", "Arrays.fill");
    private static final Set<String> STATIC_TYPES = Set.of("int", "long", "boolean", "char", "String",
            "int[]", "long[]", "char[]", "byte[]");
    private static final Set<String> ENUM_TYPES = Set.of("int", "long", "boolean", "String");
    private static final String EXCEPTIONS = "(IllegalState|IllegalArgument|IndexOutOfBounds|Arithmetic"
            + "|UnsupportedOperation|NoSuchElement|Runtime)Exception";

    private static final int MOST_PARAMETERS = 7;
    private static final int MOST_LINES = 60;
    private static final int MOST_CLASSES = 12;
    private static final int MOST_FIELDS = 20;

    public static void main(String[] args) throws IOException {
        String text = Files.readString(SOURCE);
        String code = code(text);
        library(code);
        words(code);
        exceptions(code);
        lengths(text);
        parts();
        Check.end();
    }

    /** Without comments, each text being an empty one, and each sign a number. */
    private static String code(String text) {
        return APART.matcher(text).replaceAll(m -> switch (m.group().charAt(0)) {
            case '/' -> "";
            case '"' -> "\"\"";
            default -> "0";
        });
    }

    private static void keeps(String rule, boolean kept) {
        Check.same("rule " + rule + ": kept", "true", Boolean.toString(kept));
    }

    private static List<String> found(String pattern, String code) {
        List<String> all = new ArrayList<>();
        Matcher m = Pattern.compile(pattern).matcher(code);
        while (m.find()) {
            all.add(m.group(1));
        }
        return all;
    }

    private static void library(String code) {
        for (String name : found("\nimport ([\\w.* ]+);", "\n" + code)) {
            keeps("4, import " + name, IMPORTS.contains(name));
        }
        String body = code.substring(code.indexOf("public final class"));
        Check.same("rule 4: names with their package", "[]", found("\\b(javax?\\.\\w+)", body).toString());
        for (String name : found("\\b((?:Math|Integer|Long|System|Arrays)\\.\\w+)", body)) {
            keeps("4, " + name, FUNCTIONS.contains(name));
        }
    }

    private static void words(String code) {
        Check.same("rule 2: lambdas, references", "[]", found("(->|::)", code).toString());
        Check.same("rule 3: doubles", "[]", found("\\b(double|float|Double|Float)\\b", code).toString());
        Check.same("rule 5: initialisers", "[]", found("\\b(static\\s*\\{)", code).toString());
        Check.same("rule 6: words", "[]",
                found("\\b(finally|synchronized|assert|getMessage|printStackTrace|hashCode|toString)\\b", code).toString());
        Check.same("rule 10: texts joined", "[]", found("(\"\"\\s*\\+|\\+=?\\s*\"\")", code).toString());
        Check.same("rule 13: threads and the like", "[]", found("\\b(Thread|Random|nanoTime|getenv)\\b", code).toString());
    }

    /** The class catches nothing as it stands, so nothing that the machine throws can be among it. */
    private static void exceptions(String code) {
        Check.same("rule 6: catches", "[]", found("\\b(try|catch)\\b", code).toString());
        for (String thrown : found("\\bthrow\\b([^;]*);", code)) {
            keeps("6, throw" + thrown, thrown.matches(" new " + EXCEPTIONS + "\\((\"\")?\\)"));
        }
    }

    private static void lengths(String text) {
        String[] lines = text.split("\n");
        for (int i = 0; i < lines.length; i++) {
            Matcher begins = METHOD_BEGINS.matcher(lines[i]);
            if (begins.matches()) {
                int end = Arrays.asList(lines).subList(i, lines.length).indexOf(begins.group(1) + "}");
                keeps("11, lines of " + lines[i].trim(), end > 0 && end < MOST_LINES);
            }
        }
    }

    private static void parts() {
        List<Class<?>> all = new ArrayList<>(List.of(GoatDoors.class));
        all.addAll(Arrays.asList(GoatDoors.class.getDeclaredClasses()));
        keeps("11, classes", all.size() <= MOST_CLASSES);
        for (Class<?> c : all) {
            List<Executable> calls = new ArrayList<>(Arrays.asList(c.getDeclaredMethods()));
            calls.addAll(Arrays.asList(c.getDeclaredConstructors()));
            for (Executable call : calls) {
                // An enum's constructor has its name and number ahead, which are not written.
                keeps("11, parameters of " + call, call.getParameterCount() <= MOST_PARAMETERS + (c.isEnum() ? 2 : 0));
            }
            fields(c);
        }
    }

    private static void fields(Class<?> c) {
        int own = 0;
        TreeSet<String> wrong = new TreeSet<>();
        for (Field f : c.getDeclaredFields()) {
            String type = f.getType().getSimpleName();
            boolean fixed = Modifier.isFinal(f.getModifiers());
            boolean ofEnum = f.getType().isEnum() || f.getType().isArray() && f.getType().getComponentType().isEnum();
            if (f.isSynthetic() || f.isEnumConstant()) {
                continue;
            }
            if (!Modifier.isStatic(f.getModifiers())) {
                own++;
                if (c.isEnum() && !ENUM_TYPES.contains(type)) {
                    wrong.add("2: " + f);
                }
            } else if (!fixed || !ofEnum && !STATIC_TYPES.contains(type)) {
                wrong.add("5: " + f);
            }
        }
        Check.same("rules 2 and 5: fields of " + c, "[]", wrong.toString());
        keeps("11, fields of " + c, own <= MOST_FIELDS);
    }
}
