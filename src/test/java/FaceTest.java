import java.io.IOException;
import java.lang.reflect.Constructor;
import java.lang.reflect.Executable;
import java.lang.reflect.Field;
import java.lang.reflect.Method;
import java.lang.reflect.Modifier;
import java.util.HashSet;
import java.util.Set;
import java.util.TreeSet;

/** The class has the face that the document tells, and no more. */
public final class FaceTest {
    private static final Check CHECK = new Check("FaceTest");

    private FaceTest() {
    }

    public static void main(String[] args) throws IOException {
        Document document = new Document();
        Set<String> told = new TreeSet<>();
        for (String member : document.face()) {
            told.add(withoutNames(member));
        }
        CHECK.due("members that the document tells", told.size(), 2 + 28);
        dueSignatures(document, told);
        dueMembers(told);
        dueHidden();
        CHECK.due("NONE", SealLine.NONE, -1);
        CHECK.due("final", Modifier.isFinal(SealLine.class.getModifiers()), true);
        CHECK.due("public", Modifier.isPublic(SealLine.class.getModifiers()), true);
        CHECK.due("extends nothing", SealLine.class.getSuperclass() == Object.class, true);
        CHECK.due("implements nothing", SealLine.class.getInterfaces().length, 0);
        CHECK.finish();
    }

    /** A member as the document writes it, without the names of its parameters and its value. */
    private static String withoutNames(String member) {
        return member.replaceAll("(int|long|boolean) \\w+(?=[,)])", "$1").replaceAll(" = .*|;", "");
    }

    private static void dueSignatures(Document document, Set<String> told) {
        for (int promise = 1; promise <= Document.PROMISES; promise++) {
            String signature = "public " + withoutNames(document.signature(promise));
            CHECK.due("promise " + promise + ", " + signature + ", is of the face", told.contains(signature), true);
        }
    }

    private static void dueMembers(Set<String> told) {
        Set<String> open = new TreeSet<>();
        for (Constructor<?> constructor : SealLine.class.getDeclaredConstructors()) {
            open.add(written(constructor, "SealLine"));
        }
        for (Method method : SealLine.class.getDeclaredMethods()) {
            if (!Modifier.isPrivate(method.getModifiers())) {
                open.add(written(method, method.getReturnType() + " " + method.getName()));
            }
        }
        for (Field field : SealLine.class.getDeclaredFields()) {
            if (!Modifier.isPrivate(field.getModifiers())) {
                open.add(Modifier.toString(field.getModifiers()) + " " + field.getType() + " " + field.getName());
            }
        }
        Set<String> missing = new TreeSet<>(told);
        missing.removeAll(open);
        CHECK.due("missing: " + missing, missing.size(), 0);
        open.removeAll(told);
        CHECK.due("not told: " + open, open.size(), 0);
    }

    private static String written(Executable member, String name) {
        StringBuilder text = new StringBuilder(Modifier.toString(member.getModifiers()) + " " + name + "(");
        for (Class<?> type : member.getParameterTypes()) {
            text.append(text.charAt(text.length() - 1) == '(' ? "" : ", ").append(type);
        }
        return text.append(")").toString();
    }

    /** No private method bears the name of a public one, and the classes inside are static and not public. */
    private static void dueHidden() {
        Set<String> names = new HashSet<>();
        for (Method method : SealLine.class.getMethods()) {
            names.add(method.getName());
        }
        for (Method method : SealLine.class.getDeclaredMethods()) {
            if (Modifier.isPrivate(method.getModifiers())) {
                CHECK.due("private " + method.getName() + " has a name of the face", names.contains(method.getName()),
                    false);
            }
        }
        for (Class<?> inside : SealLine.class.getDeclaredClasses()) {
            int how = inside.getModifiers();
            CHECK.due("static " + inside.getName(), Modifier.isStatic(how), true);
            CHECK.due("hidden " + inside.getName(), Modifier.isPublic(how) || Modifier.isProtected(how), false);
        }
    }
}
