import java.io.IOException;
import java.lang.reflect.Constructor;
import java.lang.reflect.Field;
import java.lang.reflect.Method;
import java.lang.reflect.Modifier;
import java.nio.file.Files;
import java.nio.file.Path;
import java.util.ArrayList;
import java.util.List;
import java.util.Set;
import java.util.regex.Matcher;
import java.util.regex.Pattern;

/** The rules of ../shared/LANGUAGE.md that show in the text of the class, or in the class itself. */
public final class LanguageTest {
    private static final int MOST_CLASSES = 12;
    private static final int MOST_FIELDS = 20;
    private static final int MOST_PARAMETERS = 7;
    private static final int LONGEST_METHOD = 60;
    private static final Set<String> LIBRARY = Set.of("Arrays.fill", "Arrays.copyOf", "Arrays.copyOfRange",
        "System.arraycopy", "Math.max", "Math.min", "Math.abs", "Integer.bitCount", "Long.bitCount",
        "Integer.numberOfTrailingZeros");
    private static final Set<String> CONSTANTS = Set.of("int", "long", "boolean", "char", "String", "int[]", "long[]",
        "char[]", "byte[]");
    private static final Check CHECK = new Check("LanguageTest");

    private LanguageTest() {
    }

    public static void main(String[] args) throws IOException {
        String code = Files.readString(Path.of("src/main/java/SealLine.java"))
            .replaceAll("(?s)/\\*.*?\\*/|//[^\n]*", "");
        dueWords(code);
        dueLibrary(code);
        dueShortMethods(code);
        dueClasses();
        CHECK.finish();
    }

    private static boolean has(String code, String pattern) {
        return Pattern.compile(pattern).matcher(code).find();
    }

    private static void dueWords(String code) {
        for (String word : new String[] {"throw", "throws", "try", "catch", "finally", "synchronized", "assert",
            "package", "yield", "hashCode", "toString", "equals", "Object", "protected", "native", "volatile"}) {
            CHECK.due("the word " + word, has(code, "\\b" + word + "\\b"), false);
        }
        CHECK.due("lambdas, method references", code.contains("->") || code.contains("::"), false);
        CHECK.due("a cast", has(code, "\\((int|long|short|byte|char|double|float|[A-Z]\\w+)\\) ?[\\w(]"), false);
        CHECK.due("a static block", has(code, "\\bstatic \\{"), false);
    }

    /** Names with a capital and a point behind them are classes: the library's or, for constants, one's own. */
    private static void dueLibrary(String code) {
        Matcher imports = Pattern.compile("import ([\\w.*]+);").matcher(code);
        while (imports.find()) {
            CHECK.due("import " + imports.group(1), imports.group(1).equals("java.util.Arrays"), true);
        }
        Matcher uses = Pattern.compile("\\b([A-Z]\\w*[a-z]\\w*)\\.(\\w+)").matcher(code);
        int seen = 0;
        while (uses.find()) {
            if (!has(code, "class " + uses.group(1) + " \\{")) {
                seen++;
                CHECK.due(uses.group() + " is let", LIBRARY.contains(uses.group()), true);
            }
        }
        CHECK.due("the library was looked at", seen > 0, true);
    }

    private static void dueShortMethods(String code) {
        Matcher methods = Pattern.compile("(?m)^( +)(?:(?:public|private|static|final) )*[\\w\\[\\]]+ ?\\w*"
            + "\\([^)]*\\) \\{\n(?s:.*?)^\\1\\}").matcher(code);
        int seen = 0;
        while (methods.find()) {
            seen++;
            CHECK.due("lines of " + methods.group().strip().split("\n")[0],
                methods.group().split("\n").length <= LONGEST_METHOD, true);
        }
        CHECK.due("methods were found", seen > 100, true);
    }

    private static void dueClasses() {
        List<Class<?>> all = new ArrayList<>(List.of(SealLine.class.getDeclaredClasses()));
        all.add(SealLine.class);
        CHECK.due("how many classes", all.size() <= MOST_CLASSES, true);
        for (Class<?> one : all) {
            int fields = 0;
            for (Field field : one.getDeclaredFields()) {
                boolean fixed = Modifier.isStatic(field.getModifiers());
                fields += fixed ? 0 : 1;
                if (fixed) {
                    CHECK.due(field + " is final", Modifier.isFinal(field.getModifiers()), true);
                    CHECK.due(field + " is let", CONSTANTS.contains(field.getType().getSimpleName()), true);
                }
            }
            CHECK.due("fields of " + one, fields <= MOST_FIELDS, true);
            for (Method method : one.getDeclaredMethods()) {
                CHECK.due("parameters of " + method, method.getParameterCount() <= MOST_PARAMETERS, true);
            }
            for (Constructor<?> made : one.getDeclaredConstructors()) {
                CHECK.due("parameters of " + made, made.getParameterCount() <= MOST_PARAMETERS, true);
            }
        }
    }
}
