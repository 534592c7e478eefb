import java.io.IOException;
import java.lang.reflect.Constructor;
import java.lang.reflect.Field;
import java.lang.reflect.Method;
import java.lang.reflect.Modifier;
import java.nio.file.Files;
import java.nio.file.Path;
import java.util.ArrayList;
import java.util.Collections;
import java.util.List;
import java.util.TreeSet;
import java.util.regex.Matcher;
import java.util.regex.Pattern;

/** The face of the class against the one in the document, and the rules of LANGUAGE.md that a text search can see. */
public final class FaceTest {
    private static final Path DOCUMENT = Path.of("../shared/DOC.md");
    private static final Path SOURCE = Path.of("src/main/java/MetroFares.java");
    private static final String[] OUTSIDE_THE_LANGUAGE = {
        "\\bcatch\\b", "\\bfinally\\b", "\\bassert\\b", "\\bsynchronized\\b", "->", "::", "\\bDouble\\b", "\\bFloat\\b",
        "\\bSystem\\.(?!arraycopy)", "\\bMath\\.\\w+Exact\\b", "\\bnew Random\\b", "\\bThread\\b", "\" \\+|\\+ \"",
        "\\bwhile\\b", "\\bprotected\\b", "^package", "import (?!java\\.util\\.NoSuchElementException;)",
        "\\b(equals|hashCode|toString)\\(", "\\bvar\\b", "[^\\x00-\\x7e]",
    };

    public static void main(String[] args) throws IOException {
        Check check = new Check();
        check.same("the face", faceOfDocument(), faceOfClass());
        checkMembers(check);
        checkSource(check);
        check.finish("FaceTest");
    }

    private static List<String> faceOfDocument() throws IOException {
        String text = Files.readString(DOCUMENT);
        String face = text.substring(text.indexOf("```java"), text.indexOf("## Terms"));
        List<String> found = new ArrayList<>();
        Matcher matcher = Pattern.compile("public (?!final)([^;]+);").matcher(face);
        while (matcher.find()) {
            found.add(matcher.group(1).replaceAll("(int|char|boolean) \\w+(?=[,)])", "$1").replace(", ", ","));
        }
        Collections.sort(found);
        return found;
    }

    private static List<String> faceOfClass() {
        List<String> found = new ArrayList<>();
        for (Method method : MetroFares.class.getDeclaredMethods()) {
            if (Modifier.isPublic(method.getModifiers())) {
                found.add(method.getReturnType() + " " + method.getName() + types(method.getParameterTypes(), "(", ")")
                        + types(method.getExceptionTypes(), " throws ", ""));
            }
        }
        for (Constructor<?> constructor : MetroFares.class.getDeclaredConstructors()) {
            found.add("MetroFares" + types(constructor.getParameterTypes(), "(", ")"));
        }
        Collections.sort(found);
        return found;
    }

    private static String types(Class<?>[] types, String before, String after) {
        List<String> names = new ArrayList<>();
        for (Class<?> type : types) {
            names.add(type.getSimpleName());
        }
        return names.isEmpty() && after.isEmpty() ? "" : before + String.join(",", names) + after;
    }

    private static void checkMembers(Check check) {
        check.same("final", true, Modifier.isFinal(MetroFares.class.getModifiers()));
        TreeSet<String> publicNames = new TreeSet<>();
        for (Method method : MetroFares.class.getDeclaredMethods()) {
            if (Modifier.isPublic(method.getModifiers())) {
                publicNames.add(method.getName());
            }
        }
        checkNames(check, MetroFares.class, publicNames);
        for (Field field : MetroFares.class.getDeclaredFields()) {
            check.same("private: " + field, true, Modifier.isPrivate(field.getModifiers()));
        }
        for (Class<?> inside : MetroFares.class.getDeclaredClasses()) {
            check.same("static: " + inside, true, Modifier.isStatic(inside.getModifiers()));
            checkNames(check, inside, publicNames);
        }
        check.same("at most twelve classes", true, MetroFares.class.getDeclaredClasses().length < 12);
    }

    private static void checkNames(Check check, Class<?> type, TreeSet<String> publicNames) {
        int fields = 0;
        for (Field field : type.getDeclaredFields()) {
            boolean isStatic = Modifier.isStatic(field.getModifiers());
            check.same("static and not final: " + field, false, isStatic && !Modifier.isFinal(field.getModifiers()));
            fields += isStatic ? 0 : 1;
        }
        check.same("at most twenty fields: " + type, true, fields <= 20);
        for (Method method : type.getDeclaredMethods()) {
            if (!Modifier.isPublic(method.getModifiers())) {
                check.same("bears a public name: " + method, false, publicNames.contains(method.getName()));
            }
        }
    }

    private static void checkSource(Check check) throws IOException {
        int number = 0;
        for (String line : Files.readAllLines(SOURCE)) {
            number++;
            String code = line.replaceAll("//.*|^\\s*/?\\*.*", "");
            for (String pattern : OUTSIDE_THE_LANGUAGE) {
                boolean found = Pattern.compile(pattern).matcher(code).find();
                check.same("line " + number + ", outside the language: " + pattern, false, found);
            }
        }
    }
}
