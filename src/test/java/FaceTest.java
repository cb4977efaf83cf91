import java.io.IOException;
import java.lang.reflect.Field;
import java.lang.reflect.Method;
import java.lang.reflect.Modifier;
import java.nio.file.Files;
import java.nio.file.Path;
import java.util.Arrays;
import java.util.Set;
import java.util.TreeSet;
import java.util.regex.Pattern;

/** The class has the document's face and no more, and keeps to the rules of LANGUAGE.md that a text shows. */
public final class FaceTest {
    private static final String[] FACE = {
        "int source(int,long)", "int build(int,int,int,int,int,long)", "long mix(int,int,int,int)",
        "int tries(int,int,boolean)", "int review(int,int,boolean)", "int feed(int)", "boolean end(int)",
        "int fault()", "int rule()", "int ask(int)", "int skip()", "int seal(int,int,int)", "int why(int,int,int)",
        "int uses(int,int)", "boolean finish(int)", "int lose(int,int)", "int recall(int,int,int)",
        "int file(int,int)", "long hash(int)", "int find(long)", "int sealed(int,int)", "int note(int,int)",
        "int least()", "int makers()", "int proof(int,int)", "int called(int)", "int count(int)", "int key(int,int)",
    };
    private static final Check CHECK = new Check("FaceTest");

    private FaceTest() {
    }

    public static void main(String[] args) throws IOException {
        CHECK.due("final", Modifier.isFinal(SealLine.class.getModifiers()), true);
        CHECK.due("public constructors", SealLine.class.getConstructors().length, 1);
        CHECK.due("NONE", SealLine.NONE, -1);
        dueMethods();
        dueFields();
        dueWords(Files.readString(Path.of("src/main/java/SealLine.java")));
        CHECK.finish();
    }

    private static void dueMethods() {
        Set<String> wanted = new TreeSet<>(Arrays.asList(FACE));
        Set<String> names = new TreeSet<>();
        for (String method : FACE) {
            names.add(method.replaceAll(".* (\\w+)\\(.*", "$1"));
        }
        for (Method method : SealLine.class.getDeclaredMethods()) {
            String told = told(method);
            if (Modifier.isPrivate(method.getModifiers())) {
                CHECK.due("private " + told + " has a name of the face", names.contains(method.getName()), false);
            } else {
                CHECK.due(told + " is of the face", wanted.remove(told), true);
                CHECK.due(told + " is public", Modifier.isPublic(method.getModifiers()), true);
            }
        }
        CHECK.due("missing: " + wanted, wanted.size(), 0);
    }

    private static String told(Method method) {
        StringBuilder told = new StringBuilder(method.getReturnType() + " " + method.getName() + "(");
        for (Class<?> type : method.getParameterTypes()) {
            told.append(told.charAt(told.length() - 1) == '(' ? "" : ",").append(type);
        }
        return told.append(")").toString();
    }

    private static void dueFields() {
        for (Field field : SealLine.class.getDeclaredFields()) {
            boolean isNone = field.getName().equals("NONE");
            CHECK.due("private " + field.getName(), Modifier.isPrivate(field.getModifiers()), !isNone);
        }
        for (Class<?> inside : SealLine.class.getDeclaredClasses()) {
            CHECK.due("static " + inside.getName(), Modifier.isStatic(inside.getModifiers()), true);
            CHECK.due("not public " + inside.getName(), Modifier.isPublic(inside.getModifiers()), false);
        }
    }

    private static void dueWords(String source) {
        String code = source.replaceAll("(?s)/\\*.*?\\*/|//[^\n]*", "");
        for (String word : new String[] {"throw", "throws", "try", "catch", "synchronized", "assert", "package",
            "yield", "System\\.(?!arraycopy)\\w*", "Math\\.\\w*Exact", "hashCode", "toString"}) {
            CHECK.due("the word " + word, Pattern.compile("\\b" + word + "\\b").matcher(code).find(), false);
        }
        CHECK.due("lambdas, method references", code.contains("->") || code.contains("::"), false);
    }
}
