import java.io.IOException;
import java.lang.reflect.Constructor;
import java.lang.reflect.Executable;
import java.lang.reflect.Field;
import java.lang.reflect.Method;
import java.lang.reflect.Modifier;
import java.lang.reflect.Parameter;
import java.nio.file.Files;
import java.nio.file.Path;
import java.util.ArrayList;
import java.util.List;
import java.util.Map;
import java.util.Set;
import java.util.TreeMap;
import java.util.TreeSet;
import java.util.regex.Matcher;
import java.util.regex.Pattern;

/**
 * The class has the face of the document, and no other member that can be seen; its names are not used twice. The face
 * is read from ../shared/DOC.md, so that each name, type, parameter and exception is the document's own.
 */
public final class FaceTests {
    private static final Path DOCUMENT = Path.of("../shared/DOC.md");
    private static final Path SOURCE = Path.of("src/main/java/ClayTraps.java");
    private static final Pattern SENTENCE_ON_PARTS =
        Pattern.compile("Ahead of the calls (.*) the interface says: ---- (.*)\\.");
    private static final int METHODS = 27;

    private static int wrong = 0;

    public static void main(String[] args) throws IOException {
        String document = Files.readString(DOCUMENT);
        members(document);
        fields();
        Set<String> names = new TreeSet<>();
        for (Method method : ClayTraps.class.getDeclaredMethods()) {
            if (!Modifier.isPrivate(method.getModifiers())) {
                names.add(method.getName());
            }
        }
        hiddenNames(names);
        parts(document, Files.readAllLines(SOURCE));
        System.out.println(wrong == 0 ? "the face is as due" : wrong + " things are not as due");
        if (wrong != 0) {
            System.exit(1);
        }
    }

    /** What can be seen of the class, told as the document tells it, is what the document tells, and nothing else. */
    private static void members(String document) {
        Set<String> wanted = new TreeSet<>(faceOf(document));
        Set<String> seen = new TreeSet<>();
        for (Constructor<?> constructor : ClayTraps.class.getDeclaredConstructors()) {
            seen.add(told(constructor, "ClayTraps"));
        }
        for (Method method : ClayTraps.class.getDeclaredMethods()) {
            if (!Modifier.isPrivate(method.getModifiers())) {
                seen.add(told(method, method.getReturnType().getName() + " " + method.getName()));
            }
        }
        check("the document tells a constructor and " + METHODS + " methods", wanted.size() == METHODS + 1);
        for (String member : wanted) {
            check("the document's is there: " + member, seen.contains(member));
        }
        for (String member : seen) {
            check("the document tells of it: " + member, wanted.contains(member));
        }
        check("the class is public and final", ClayTraps.class.getModifiers() == (Modifier.PUBLIC | Modifier.FINAL));
    }

    private static List<String> faceOf(String document) {
        List<String> face = new ArrayList<>();
        Matcher member = Pattern.compile("(?m)^    (public .*);$").matcher(document);
        while (member.find()) {
            face.add(member.group(1));
        }
        return face;
    }

    private static String told(Executable member, String name) {
        List<String> parameters = new ArrayList<>();
        for (Parameter parameter : member.getParameters()) {
            parameters.add(parameter.getType().getName() + " " + parameter.getName());
        }
        List<String> exceptions = new ArrayList<>();
        for (Class<?> exception : member.getExceptionTypes()) {
            exceptions.add(exception.getSimpleName());
        }
        String modifiers = Modifier.toString(member.getModifiers());
        return modifiers + " " + name + "(" + String.join(", ", parameters) + ")"
            + (exceptions.isEmpty() ? "" : " throws " + String.join(", ", exceptions));
    }

    private static void fields() {
        for (Field field : ClayTraps.class.getDeclaredFields()) {
            check(field.getName() + " is private", Modifier.isPrivate(field.getModifiers()));
            check(field.getName() + " is final, if static", !Modifier.isStatic(field.getModifiers())
                || Modifier.isFinal(field.getModifiers()));
        }
    }

    private static void hiddenNames(Set<String> names) {
        for (Method method : ClayTraps.class.getDeclaredMethods()) {
            check(method.getName() + " is used once", !Modifier.isPrivate(method.getModifiers())
                || !names.contains(method.getName()));
        }
        for (Class<?> inside : ClayTraps.class.getDeclaredClasses()) {
            check(inside.getName() + " is static", Modifier.isStatic(inside.getModifiers()));
            check(inside.getName() + " is not public", !Modifier.isPublic(inside.getModifiers()));
            for (Method method : inside.getDeclaredMethods()) {
                check(method.getName() + " is used once", !names.contains(method.getName()));
            }
        }
    }

    /** "Ahead of the calls .. the interface says: ---- ..": the source has these words there. */
    private static void parts(String document, List<String> source) {
        Map<String, String> partOf = new TreeMap<>();
        Matcher sentence = SENTENCE_ON_PARTS.matcher(document);
        while (sentence.find()) {
            Matcher name = Pattern.compile("`(\\w+)`").matcher(sentence.group(1));
            while (name.find()) {
                partOf.put(name.group(1), "// ---- " + sentence.group(2));
            }
        }
        check("the document tells each method's part", partOf.size() == METHODS);
        String part = "";
        for (String line : source) {
            part = line.trim().startsWith("// ----") ? line.trim() : part;
            Matcher head = Pattern.compile("    public \\w+ (\\w+)\\(.*").matcher(line);
            if (head.matches()) {
                String wanted = partOf.get(head.group(1));
                check(head.group(1) + " stands behind " + wanted, part.equals(wanted));
            }
        }
    }

    private static void check(String what, boolean holds) {
        if (!holds) {
            wrong++;
            System.out.println("not so: " + what);
        }
    }
}
