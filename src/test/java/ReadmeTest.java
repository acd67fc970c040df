import java.io.IOException;
import java.lang.reflect.InvocationTargetException;
import java.lang.reflect.Method;
import java.nio.file.Files;
import java.nio.file.Path;
import java.util.regex.Matcher;
import java.util.regex.Pattern;

/** The calls that README.md shows, one behind the other on one object: each answers what stands behind it. */
public final class ReadmeTest {
    private static final Pattern CALL = Pattern.compile("storks\\.(\\w+)\\(([^)]*)\\); +// (-?\\d+|true|false)\\b.*");
    private static final int FEWEST_CALLS = 20;

    private static Object answer(StorksLet storks, String name, String told) throws ReflectiveOperationException {
        String[] words = told.isBlank() ? new String[0] : told.split(", *");
        Class<?>[] kinds = new Class<?>[words.length];
        Object[] numbers = new Object[words.length];
        for (int i = 0; i < words.length; i++) {
            kinds[i] = int.class;
            numbers[i] = Long.decode(words[i]).intValue();
        }
        Method method = StorksLet.class.getMethod(name, kinds);
        return method.invoke(storks, numbers);
    }

    public static void main(String[] args) throws IOException, ReflectiveOperationException {
        String source = System.getenv().getOrDefault("STORKS_SOURCE", "src/main/java/StorksLet.java");
        Path readme = Path.of(source).toAbsolutePath().resolve("../../../../README.md").normalize();
        StorksLet storks = new StorksLet();
        int calls = 0;
        int wrong = 0;
        for (String line : Files.readAllLines(readme)) {
            Matcher m = CALL.matcher(line);
            if (!m.matches()) {
                if (line.startsWith("storks.")) {
                    wrong++;
                    System.out.println("ReadmeTest: no answer is told for " + line);
                }
                continue;
            }
            calls++;
            String is;
            try {
                is = String.valueOf(answer(storks, m.group(1), m.group(2)));
            } catch (InvocationTargetException e) {
                is = "throws." + e.getCause().getClass().getSimpleName();
            }
            if (!is.equals(m.group(3))) {
                wrong++;
                System.out.println("ReadmeTest: " + line.trim() + " answered " + is);
            }
        }
        if (calls < FEWEST_CALLS) {
            wrong++;
            System.out.println("ReadmeTest: README.md shows " + calls + " calls alone");
        }
        System.out.println("ReadmeTest: " + calls + " calls, " + wrong + " wrong");
        System.exit(wrong == 0 ? 0 : 1);
    }
}
