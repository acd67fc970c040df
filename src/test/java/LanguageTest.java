import java.io.IOException;
import java.lang.reflect.Constructor;
import java.lang.reflect.Field;
import java.lang.reflect.Method;
import java.lang.reflect.Modifier;
import java.nio.file.Files;
import java.nio.file.Path;
import java.util.ArrayList;
import java.util.Arrays;
import java.util.List;
import java.util.Set;
import java.util.TreeSet;
import java.util.regex.Matcher;
import java.util.regex.Pattern;
import java.util.stream.Collectors;

/**
 * Rules of LANGUAGE.md that can be seen in the file or in the class. STORKS_SOURCE is the file, STORKS_SHARED the folder
 * with the document.
 */
public final class LanguageTest {
    private static final Set<String> LIBRARY = Set.of("Math.max", "Math.min", "Integer.bitCount", "System.arraycopy", "Arrays.fill");
    private static int wrong = 0;

    private static void fault(String text) {
        wrong++;
        System.out.println("LanguageTest: " + text);
    }

    /** The file without comments; each text in it is an empty one. */
    private static String bare(String source) {
        return source.replaceAll("(?s)/\\*.*?\\*/", "").replaceAll("//[^\n]*", "").replaceAll("\"[^\"\n]*\"", "\"\"");
    }

    private static void words(String code) {
        String[] refused = {"->", "::", "\\bcatch\\b", "\\btry\\b", "\\bfinally\\b", "\\bsynchronized\\b", "\\bassert\\b", "\\bpackage\\b",
            "\\bvar\\b", "\\binstanceof\\b", "\\bdouble\\b", "\\bfloat\\b", "\\w+Exact\\b", "\\+ \"\"", "\"\" \\+", "\\.equals\\b",
            "\\bObject\\b", "\\bstatic \\{", "\\bprotected\\b", "\\bwhile \\(true\\)", "\\bfor \\(;;\\)", "\\bvolatile\\b"};
        for (String word : refused) {
            Matcher m = Pattern.compile(word).matcher(code);
            if (m.find()) {
                fault(word + " stands in the file");
            }
        }
        Matcher m = Pattern.compile("\\b(Math|Integer|Long|System|Arrays|String|Character|List)\\.(\\w+)").matcher(code);
        while (m.find()) {
            if (!LIBRARY.contains(m.group())) {
                fault(m.group() + " is not of the library");
            }
        }
        m = Pattern.compile("import ([\\w.]+);").matcher(code);
        while (m.find()) {
            if (!Set.of("java.util.Arrays", "java.util.NoSuchElementException").contains(m.group(1))) {
                fault(m.group() + " is not needed");
            }
        }
        m = Pattern.compile("throw new (\\w+)").matcher(code);
        while (m.find()) {
            if (!m.group(1).equals("NoSuchElementException")) {
                fault(m.group() + " is not in the document");
            }
        }
    }

    private static void lengths(String source) {
        String[] lines = source.split("\n");
        int start = -1;
        for (int i = 0; i < lines.length; i++) {
            if (lines[i].matches("( {4}| {8})\\w.*\\) (throws \\w+ )?\\{")) {
                start = i;
            }
            if (start >= 0 && lines[i].matches("( {4}| {8})\\}")) {
                if (i - start + 1 > 60) {
                    fault("too long: " + lines[start].trim());
                }
                start = -1;
            }
            if (lines[i].length() > 125) {
                fault("line " + (i + 1) + " is too wide");
            }
            if (lines[i].chars().anyMatch(c -> c < 32 || c > 126)) {
                fault("line " + (i + 1) + " has another sign than those of ASCII");
            }
        }
    }

    private static String face(String name, Class<?> answer, Class<?>[] types, Class<?>[] thrown) {
        return (answer + " " + name + Arrays.toString(types) + Arrays.toString(thrown)).replace("class java.util.", "");
    }

    /** The face as the document's block of Java tells it. */
    private static Set<String> facePromised(String document) {
        String block = document.substring(document.indexOf("```java"), document.indexOf("```", document.indexOf("```java") + 3));
        Set<String> promised = new TreeSet<>();
        Matcher m = Pattern.compile("public (int|boolean) (\\w+)\\(([^)]*)\\)( throws NoSuchElementException)?;").matcher(block);
        while (m.find()) {
            int n = m.group(3).isEmpty() ? 0 : m.group(3).split(",").length;
            String types = "[" + String.join(", ", java.util.Collections.nCopies(n, "int")) + "]";
            promised.add(m.group(1) + " " + m.group(2) + types + (m.group(4) == null ? "[]" : "[NoSuchElementException]"));
        }
        return promised;
    }

    private static void face(Set<String> promised) {
        Set<String> is = new TreeSet<>();
        Set<String> names = new TreeSet<>();
        for (Method m : StorksLet.class.getDeclaredMethods()) {
            if (!Modifier.isPrivate(m.getModifiers())) {
                is.add(face(m.getName(), m.getReturnType(), m.getParameterTypes(), m.getExceptionTypes()));
                names.add(m.getName());
            }
        }
        if (!is.equals(promised) || is.size() != 48) {
            fault("the face is " + is + ", promised is " + promised);
        }
        for (Field f : StorksLet.class.getDeclaredFields()) {
            if (!Modifier.isPrivate(f.getModifiers()) && !f.getName().equals("NONE")) {
                fault("the face has a field " + f.getName());
            }
        }
        for (Constructor<?> c : StorksLet.class.getDeclaredConstructors()) {
            if (!Modifier.isPublic(c.getModifiers()) || c.getParameterCount() != 0) {
                fault("the face has a constructor " + c);
            }
        }
        if (StorksLet.class.getModifiers() != (Modifier.PUBLIC | Modifier.FINAL)) {
            fault("the class is not public and final alone");
        }
        for (Class<?> c : classes()) {
            for (Method m : c.getDeclaredMethods()) {
                boolean own = c == StorksLet.class;
                if (names.contains(m.getName()) && (!own || Modifier.isPrivate(m.getModifiers()))) {
                    fault(m + " bears the name of a public one");
                }
            }
        }
    }

    private static List<Class<?>> classes() {
        List<Class<?>> all = new ArrayList<>(List.of(StorksLet.class.getDeclaredClasses()));
        all.add(StorksLet.class);
        return all;
    }

    private static void shapes() {
        if (classes().size() > 12) {
            fault("more than 12 classes");
        }
        for (Class<?> c : classes()) {
            if (c != StorksLet.class && !Modifier.isStatic(c.getModifiers())) {
                fault(c + " is not static");
            }
            List<Field> fields = Arrays.stream(c.getDeclaredFields()).filter(f -> !Modifier.isStatic(f.getModifiers())).collect(Collectors.toList());
            if (fields.size() > 20) {
                fault(c + " has " + fields.size() + " fields");
            }
            for (Field f : c.getDeclaredFields()) {
                if (Modifier.isStatic(f.getModifiers()) && !Modifier.isFinal(f.getModifiers())) {
                    fault(f + " is not final");
                }
            }
            for (Method m : c.getDeclaredMethods()) {
                if (m.getParameterCount() > 7) {
                    fault(m + " takes more than seven");
                }
                if (Set.of("equals", "hashCode", "toString").contains(m.getName())) {
                    fault(m + " is not allowed");
                }
            }
        }
    }

    public static void main(String[] args) throws IOException {
        String source = Files.readString(Path.of(System.getenv().getOrDefault("STORKS_SOURCE", "src/main/java/StorksLet.java")));
        words(bare(source));
        lengths(source);
        face(facePromised(Files.readString(Path.of(System.getenv().getOrDefault("STORKS_SHARED", "../shared"), "DOC.md"))));
        shapes();
        System.out.println("LanguageTest: " + wrong + " wrong");
        if (wrong > 0) {
            System.exit(1);
        }
    }
}
