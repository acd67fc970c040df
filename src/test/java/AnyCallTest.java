import java.lang.reflect.InvocationTargetException;
import java.lang.reflect.Method;
import java.lang.reflect.Modifier;
import java.util.ArrayList;
import java.util.Arrays;
import java.util.Comparator;
import java.util.List;
import java.util.NoSuchElementException;
import java.util.Random;
import java.util.Set;
import java.util.stream.LongStream;

/**
 * Some hundred calls each of many objects, with any numbers and any texts: no call throws but NoSuchElementException, and that
 * only where the document says so; the same calls give the same answers.
 */
public final class AnyCallTest {
    private static final Set<String> MAY_THROW = Set.of("roof", "bird", "family", "worth", "row");
    private static final int[] NUMBERS = {Integer.MIN_VALUE, Integer.MAX_VALUE, -2, -1, 0, 1, 2, 3, 4, 5, 6, 7, 8, 9, 10, 11, 12, 13,
        20, 21, 30, 31, 60, 61, 99, 100, 999, 1000};
    private static final String[] PARTS = {"r505@0;", "b5;", "f0;", "f1*2;", "b7/12;", "r999w@3;", "w0;", "d9;", "x1;", "s12;", "f0>1;",
        "d;", "h+v", "(h", "*2)", "<k", "o*9", "-", "0", "1", "2", "3", "9", "5", ";", "@", "/", "d/2", ")", "i", "r=i"};
    private static final List<Method> CALLS = calls(".*");
    private static final List<Method> READERS = calls("town|rule|frost|spring|aim");

    private static List<Method> calls(String names) {
        List<Method> calls = new ArrayList<>();
        for (Method m : StorksLet.class.getDeclaredMethods()) {
            if (Modifier.isPublic(m.getModifiers()) && m.getName().matches(names)) {
                calls.add(m);
            }
        }
        calls.sort(Comparator.comparing(Method::getName));
        return calls;
    }

    private static String anyText(Random random) {
        StringBuilder text = new StringBuilder();
        for (int left = random.nextInt(12); left > 0; left--) {
            text.append(PARTS[random.nextInt(PARTS.length)]);
        }
        if (random.nextInt(10) == 0) {
            text.append((char) random.nextInt(256));
        } else if (random.nextBoolean() && text.length() > 0) {
            text.setLength(text.length() - 1);
        }
        text.setLength(Math.min(80, text.length()));
        return text.toString();
    }

    private static Object[] anyNumbers(Random random, int n) {
        Object[] numbers = new Object[n];
        for (int i = 0; i < n; i++) {
            numbers[i] = random.nextInt(4) > 0 ? random.nextInt(6) : NUMBERS[random.nextInt(NUMBERS.length)];
        }
        return numbers;
    }

    /** A number for all answers, or null if a call threw what it may not. */
    private static Integer run(long seed) {
        Random random = new Random(seed);
        StorksLet s = new StorksLet();
        int all = 0;
        for (int i = 0; i < 300; i++) {
            boolean reads = random.nextInt(3) == 0;
            if (reads) {
                Due.tell(s, anyText(random));
            }
            List<Method> calls = reads ? READERS : CALLS;
            Method call = calls.get(random.nextInt(calls.size()));
            Object[] numbers = anyNumbers(random, call.getParameterCount());
            try {
                all = all * 31 + call.invoke(s, numbers).hashCode();
            } catch (InvocationTargetException e) {
                if (e.getCause().getClass() != NoSuchElementException.class || !MAY_THROW.contains(call.getName())) {
                    System.out.println("seed " + seed + ": " + call.getName() + Arrays.toString(numbers) + " throws " + e.getCause());
                    return null;
                }
            } catch (IllegalAccessException e) {
                throw new IllegalStateException(e);
            }
        }
        return all;
    }

    public static void main(String[] args) {
        long wrong = LongStream.range(0, 2000).parallel().filter(seed -> {
            Integer first = run(seed);
            return first == null || !first.equals(run(seed));
        }).count();
        System.out.println("AnyCallTest: " + wrong + " wrong");
        if (wrong > 0) {
            System.exit(1);
        }
    }
}
