import java.io.IOException;
import java.lang.reflect.Field;
import java.lang.reflect.Member;
import java.lang.reflect.Method;
import java.lang.reflect.Modifier;
import java.nio.file.Files;
import java.nio.file.Path;
import java.util.Arrays;
import java.util.Set;
import java.util.TreeSet;
import java.util.regex.Matcher;
import java.util.regex.Pattern;
import java.util.stream.Collectors;

/** The public face of the document, and the rules of LANGUAGE.md that can be seen from outside or in the words. */
public final class FaceTest {
    private static final String FACE = "act(int,int,int,int) array(int) byteOf(int,int) called(int,int,boolean) clear() "
        + "count(int) fault(int,int) group(int,int,int) isOf(int,int) letter(int) loop(int,int) meta(int) move(int,int) "
        + "name(int,int) object(int,int) out(int) provides(int,int) read(int,int,int) routine() send(int,int,int) "
        + "sendAs(int,int,int,int) setWord(int,int,int) text() tree(int,int) value(int,int,int,int) word(int,int) "
        + "write(int,int,int,int)";
    private static final Due due = new Due();

    public static void main(String[] args) throws IOException {
        face();
        faceOfTheDocument();
        classesInside();
        words();
        due.end();
    }

    private static String signature(Method m) {
        return m.getName() + Arrays.stream(m.getParameterTypes()).map(Class::getSimpleName)
            .collect(Collectors.joining(",", "(", ")"));
    }

    private static void face() {
        Class<?> c = VeneerRows.class;
        due.is("public final", c.getModifiers(), Modifier.PUBLIC | Modifier.FINAL);
        Set<String> open = new TreeSet<>();
        Set<String> names = new TreeSet<>();
        for (Method m : c.getDeclaredMethods()) {
            if (!Modifier.isPrivate(m.getModifiers())) {
                open.add(signature(m));
                names.add(m.getName());
                due.is(m.getName() + " is public and answers an int", m.getReturnType() == int.class
                    && m.getModifiers() == Modifier.PUBLIC ? 1 : 0, 1);
            }
        }
        due.is("methods", String.join(" ", open), FACE);
        due.is("constructors", Arrays.stream(c.getDeclaredConstructors()).map(Object::toString)
            .collect(Collectors.joining(" ")), "public VeneerRows(int)");
        Set<String> constants = new TreeSet<>();
        for (Field f : c.getDeclaredFields()) {
            int modifiers = f.getModifiers();
            if (!Modifier.isPrivate(modifiers)) {
                constants.add(f.getName());
            }
            due.is(f.getName() + " is final if static", !Modifier.isStatic(modifiers) || Modifier.isFinal(modifiers)
                ? 1 : 0, 1);
        }
        due.is("constants", String.join(" ", constants), "NONE OUTSIDE ROOM UNKNOWN");
        due.is("NONE", VeneerRows.NONE, -1);
        due.is("UNKNOWN", VeneerRows.UNKNOWN, -2);
        due.is("OUTSIDE", VeneerRows.OUTSIDE, -3);
        due.is("ROOM", VeneerRows.ROOM, -4);
        noneHidden(c, names);
    }

    /** What this test holds to be the face is the document's, name by name and type by type. */
    private static void faceOfTheDocument() throws IOException {
        String document = Files.readString(Path.of("../shared/DOC.md"));
        Set<String> methods = new TreeSet<>();
        Matcher method = Pattern.compile("public int (\\w+)\\(([^)]*)\\);").matcher(document);
        while (method.find()) {
            methods.add(method.group(1) + "(" + method.group(2).replaceAll(" \\w+(, |$)", "$1").replace(" ", "") + ")");
        }
        due.is("the document's methods", String.join(" ", methods), FACE);
        due.is("the document's constructor", document.contains("public VeneerRows(int strict);") ? 1 : 0, 1);
        due.is("the document's constants", document.contains(
            "public static final int NONE = -1, UNKNOWN = -2, OUTSIDE = -3, ROOM = -4;") ? 1 : 0, 1);
    }

    private static void noneHidden(Class<?> c, Set<String> names) {
        for (Method m : c.getDeclaredMethods()) {
            if (c != VeneerRows.class || Modifier.isPrivate(m.getModifiers())) {
                due.is(c.getSimpleName() + "." + m.getName() + " bears a name of the face",
                    names.contains(m.getName()) ? 1 : 0, 0);
            }
            due.is(m.getName() + " takes too many", m.getParameterCount() > 7 ? 1 : 0, 0);
        }
        for (Class<?> inside : c.getDeclaredClasses()) {
            noneHidden(inside, names);
        }
    }

    private static void classesInside() {
        Class<?>[] inside = VeneerRows.class.getDeclaredClasses();
        due.is("classes", inside.length + 1 > 12 ? 1 : 0, 0);
        for (Class<?> c : inside) {
            due.is(c.getSimpleName() + " is static and not open", Modifier.isStatic(c.getModifiers())
                && !Modifier.isPublic(c.getModifiers()) && !Modifier.isProtected(c.getModifiers()) ? 1 : 0, 1);
        }
        long fields = Arrays.stream(VeneerRows.class.getDeclaredFields()).map(Member::getModifiers)
            .filter(m -> !Modifier.isStatic(m)).count();
        due.is("fields", fields > 20 ? 1 : 0, 0);
    }

    private static void words() throws IOException {
        String source = Files.readString(Path.of("src/main/java/VeneerRows.java"))
            .replaceAll("(?s)/\\*.*?\\*/", " ").replaceAll("//[^\n]*", " ").replaceAll("\"[^\"\n]*\"", "\"\"");
        Matcher m = Pattern.compile("\\b(throw|throws|try|catch|synchronized|assert|package|double|float|protected|"
            + "Object|System|Thread|Random|hashCode|toString|equals|\\w+Exact)\\b|->|::|\"\\s*\\+|\\+\\s*\"").matcher(source);
        while (m.find()) {
            due.is("line with " + m.group(), 1, 0);
        }
        Matcher imports = Pattern.compile("import ([^;]*);").matcher(source);
        while (imports.find()) {
            due.is("imports", imports.group(1), "java.util.Arrays");
        }
    }
}
