import java.io.IOException;
import java.lang.reflect.Constructor;
import java.lang.reflect.Field;
import java.lang.reflect.Member;
import java.lang.reflect.Method;
import java.lang.reflect.Modifier;
import java.nio.file.Files;
import java.nio.file.Path;
import java.util.ArrayList;
import java.util.Arrays;
import java.util.List;
import java.util.Set;
import java.util.TreeSet;
import java.util.regex.Matcher;
import java.util.regex.Pattern;

/** The class has the document's face and no other member that is seen from outside, and keeps to rules that a scan can see. */
public final class FaceTest {
    private static final Path DOCUMENT = Path.of("..", "shared", "DOC.md");
    private static final Path PROGRAM = Path.of("src", "main", "java", "Mostwell.java");
    private static final String[] BANNED = {
        "->", "::", " finally", "synchronized", "assert ", "var ", "System.exit", "System.out", "Math.random",
        "catch", "try ", "Exact(", "hashCode", "toString", "Object ", ".getClass", "protected", "native", "import static",
        "java.util.*", "@Override", "@SuppressWarnings", "currentTimeMillis", "nanoTime", "Thread"};

    /** What the program takes from the library, all of it listed in LANGUAGE.md; a new one is looked up there first. */
    private static final Set<String> LIBRARY = Set.of(
        "Arrays.fill", "System.arraycopy", "Integer.compare", "Math.min", "Math.max", "java.util");
    private static final Pattern OF_LIBRARY = Pattern.compile(
        "\\b((?:java|Arrays|System|Integer|Long|Math|Character|String|StringBuilder|List|ArrayList)\\.\\w+)");
    private static final Set<String> IMPORTS = Set.of(
        "import java.util.Arrays;", "import java.util.NoSuchElementException;");
    private static final Pattern THROWN = Pattern.compile(
        "throw new (IllegalState|IllegalArgument|IndexOutOfBounds|Arithmetic|UnsupportedOperation|NoSuchElement)"
        + "Exception\\(\"[^\"]+\"\\);");

    private static int wrong = 0;

    public static void main(String[] args) throws IOException {
        TreeSet<String> due = dueFace();
        TreeSet<String> got = gotFace();
        if (due.size() != 41) {
            report("the document's face has " + due.size() + " members, 41 were looked for");
        }
        for (String member : due) {
            if (!got.contains(member)) {
                report("missing: " + member);
            }
        }
        for (String member : got) {
            if (!due.contains(member)) {
                report("too much: " + member);
            }
        }
        checkClasses(Mostwell.class);
        checkText(Files.readAllLines(PROGRAM));
        System.out.println(got.size() + " members of the face, " + wrong + " wrong");
        if (wrong != 0) {
            System.exit(1);
        }
    }

    private static void report(String what) {
        wrong++;
        System.out.println(what);
    }

    /** The lines of the document's code block, without names of arguments. */
    private static TreeSet<String> dueFace() throws IOException {
        TreeSet<String> face = new TreeSet<>();
        boolean inside = false;
        for (String line : Files.readAllLines(DOCUMENT)) {
            if (line.startsWith("public final class Mostwell")) {
                inside = true;
            } else if (inside && line.equals("}")) {
                return face;
            } else if (inside) {
                face.add(line.trim().replace(";", "").replaceAll("(int|char) \\w+([,)])", "$1$2"));
            }
        }
        return face;
    }

    private static TreeSet<String> gotFace() {
        TreeSet<String> face = new TreeSet<>();
        List<Member> members = new ArrayList<>();
        for (Constructor<?> c : Mostwell.class.getDeclaredConstructors()) {
            members.add(c);
            face.add("public Mostwell" + parameters(c.getParameterTypes()) + thrown(c.getExceptionTypes()));
        }
        TreeSet<String> publicNames = new TreeSet<>();
        for (Method m : Mostwell.class.getDeclaredMethods()) {
            members.add(m);
            if (Modifier.isPublic(m.getModifiers())) {
                publicNames.add(m.getName());
                face.add("public " + m.getReturnType().getSimpleName() + " " + m.getName()
                    + parameters(m.getParameterTypes()) + thrown(m.getExceptionTypes()));
            }
        }
        for (Method m : Mostwell.class.getDeclaredMethods()) {
            if (!Modifier.isPublic(m.getModifiers()) && publicNames.contains(m.getName())) {
                report("a private method has a public name: " + m);
            }
        }
        members.addAll(Arrays.asList(Mostwell.class.getDeclaredFields()));
        for (Member m : members) {
            boolean allowed = Modifier.isPrivate(m.getModifiers())
                || Modifier.isPublic(m.getModifiers()) && !(m instanceof Field);
            if (!allowed) {
                report("seen from outside: " + m);
            }
        }
        int modifiers = Mostwell.class.getModifiers();
        if (!Modifier.isPublic(modifiers) || !Modifier.isFinal(modifiers)) {
            report("the class is not public and final");
        }
        return face;
    }

    private static String parameters(Class<?>[] types) {
        List<String> names = new ArrayList<>();
        for (Class<?> type : types) {
            names.add(type.getSimpleName());
        }
        return "(" + String.join(", ", names) + ")";
    }

    private static String thrown(Class<?>[] types) {
        List<String> names = new ArrayList<>();
        for (Class<?> type : types) {
            names.add(type.getSimpleName());
        }
        return names.isEmpty() ? "" : " throws " + String.join(", ", names);
    }

    private static void checkClasses(Class<?> outer) {
        List<Class<?>> classes = new ArrayList<>(Arrays.asList(outer.getDeclaredClasses()));
        if (classes.size() > 11) {
            report("more than twelve classes");
        }
        for (Class<?> inner : classes) {
            if (!Modifier.isStatic(inner.getModifiers()) || Modifier.isPublic(inner.getModifiers())) {
                report("a class inside that is public or not static: " + inner);
            }
        }
        classes.add(outer);
        for (Class<?> one : classes) {
            int fields = 0;
            for (Field field : one.getDeclaredFields()) {
                if (!Modifier.isStatic(field.getModifiers())) {
                    fields++;
                } else if (!Modifier.isFinal(field.getModifiers())) {
                    report("a static field that is not final: " + field);
                }
            }
            if (fields > 20) {
                report("more than twenty fields: " + one);
            }
            for (Method method : one.getDeclaredMethods()) {
                if (method.getParameterCount() > 7) {
                    report("more than seven parameters: " + method);
                }
            }
        }
    }

    private static void checkText(List<String> lines) {
        int since = 0;
        for (int i = 0; i < lines.size(); i++) {
            String line = lines.get(i);
            String text = line.trim();
            if (line.startsWith("package") || line.chars().anyMatch(c -> c > 126)) {
                report("line " + (i + 1) + ": " + line);
            }
            if (text.startsWith("/**") || text.startsWith("*") || text.startsWith("//")) {
                continue;
            }
            checkLibrary(i + 1, text);
            for (String banned : BANNED) {
                if (line.contains(banned)) {
                    report("line " + (i + 1) + " has " + banned);
                }
            }
            // in a loop or a call nothing may be made: all rows are made with the object
            if (line.contains("new ") && !text.startsWith("throw new ") && !line.contains(" final ")) {
                report("line " + (i + 1) + " makes an object in a call");
            }
            if (text.isEmpty()) {
                since = i;
            }
            if (i - since > 61) {
                report("line " + (i + 1) + ": a method of more than sixty lines");
                since = i;
            }
        }
    }

    private static void checkLibrary(int number, String text) {
        Matcher matcher = OF_LIBRARY.matcher(text);
        while (matcher.find()) {
            if (!LIBRARY.contains(matcher.group(1))) {
                report("line " + number + " takes from the library " + matcher.group(1));
            }
        }
        if (text.startsWith("import ") && !IMPORTS.contains(text)) {
            report("line " + number + " imports more: " + text);
        }
        if (text.contains("throw ") && !THROWN.matcher(text).matches()) {
            report("line " + number + " throws in another form: " + text);
        }
    }
}
