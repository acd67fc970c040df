import java.lang.reflect.InvocationTargetException;
import java.lang.reflect.Method;
import java.lang.reflect.Modifier;
import java.util.ArrayList;
import java.util.List;
import java.util.Map;
import java.util.Random;
import java.util.TreeMap;
import java.util.concurrent.atomic.AtomicLong;
import java.util.stream.LongStream;

/**
 * Runs of calls drawn by a fixed seed, each answered by the class and by the oracle: all answers and rows must agree.
 * Arguments: how many runs, and the first seed; without them, as many as CI has time for.
 */
public final class OracleTest {
    private static final String[] ASKING = {
        "roof", "bird", "family", "worth", "owes", "lord", "later", "calm", "moves", "income", "homeless", "bears",
        "rests", "ways", "kindest", "wheel", "courts", "win", "drive", "choose", "fewest", "gently", "strengths",
        "latest", "absent", "chance", "safest", "count", "row"};
    private static final String[] CHANGING = {
        "build", "ring", "swear", "sheet", "day", "days", "pay", "undo", "seen", "forget", "keep", "again",
        "TOWN", "RULE", "FROST", "SPRING", "SPRING", "AIM", "AIM"};
    private static final int[] EXTREMES = {Integer.MIN_VALUE, -61, -2, -1, 0, 1, 2, 5, 61, 1000, Integer.MAX_VALUE};
    private static final String[] RULES = {
        "", "h+v-s", "h+v-s+o*3", "h*v-s*s+w*9", "k-r+d", "(h>s)*9-o*20", "9-i-r*(d/3=1)", "f*5+h-v", "w*99+h",
        "-h+9", "h*h*h*h*h*h*h*h*h*h*h*h", "999*999*999*999", "0-9", "v/(s-3)-o", "((((h))))+--v", "1+(r=i)*9",
        "d*d/7-h+v", "(r+d)-(r+d)/4*4+o", "r=i", "10-o*20", "5", "(h+v)*(1-w)+w*(k>4)*30"};

    private static final Map<String, Method> OF_CLASS = publicMethods(StorksLet.class);
    private static final Map<String, Method> OF_ORACLE = publicMethods(Oracle.class);
    private static final AtomicLong ASKED = new AtomicLong();
    private final Random random;
    private final StorksLet storks = new StorksLet();
    private final Oracle oracle = new Oracle();
    private final List<String> told = new ArrayList<>();

    private OracleTest(long seed) {
        random = new Random(seed);
        told.add("seed " + seed);
    }

    private static Map<String, Method> publicMethods(Class<?> of) {
        Map<String, Method> methods = new TreeMap<>();
        for (Method m : of.getDeclaredMethods()) {
            if (Modifier.isPublic(m.getModifiers())) methods.put(m.getName(), m);
        }
        return methods;
    }

    private static String answer(Object target, Method method, Object[] args) {
        try {
            return String.valueOf(method.invoke(target, args));
        } catch (InvocationTargetException e) {
            return e.getCause().getClass().getName();
        } catch (IllegalAccessException e) {
            throw new IllegalStateException(e);
        }
    }

    private boolean call(String name, int... args) {
        Object[] boxed = new Object[args.length];
        for (int i = 0; i < args.length; i++) boxed[i] = args[i];
        String got = answer(storks, OF_CLASS.get(name), boxed);
        String want = answer(oracle, OF_ORACLE.get(name), boxed);
        ASKED.incrementAndGet();
        told.add(name + java.util.Arrays.toString(args) + " -> " + got);
        boolean good = got.equals(want) && storks.count(10) == oracle.count(10);
        for (int i = 0; good && i < oracle.count(10); i++) good = storks.row(i) == oracle.row(i);
        if (!good) told.add("due is " + want + ", the row " + oracle.row);
        return good;
    }

    private boolean tell(String text) {
        told.add("text " + text);
        boolean good = call("end", 0);
        for (int i = 0; i < text.length() && good; i += 4) {
            int v = 0;
            for (int k = 0; k < 4; k++) v = v << 8 | (i + k < text.length() ? text.charAt(i + k) : 0);
            good = call("sign", v);
        }
        return good && call("end", text.length());
    }

    private String digit(int below) {
        return "" + random.nextInt(below);
    }

    private String roofLine() {
        return "r" + digit(10) + digit(10) + digit(10) + (random.nextInt(4) == 0 ? "w" : "") + "@" + digit(random.nextInt(9) == 0 ? 4 : 2);
    }

    private String birdLine() {
        int kind = random.nextInt(4);
        return "b" + (1 + random.nextInt(9)) + (kind == 0 ? "/" + digit(10) : kind == 1 ? "/" + random.nextInt(20) : "");
    }

    private String familyLine(int birds) {
        return "f" + digit(Math.max(1, birds)) + (random.nextInt(2) == 0 ? "*" + digit(10) : "");
    }

    private String townText(int roofs, int birds, int families) {
        List<String> lines = new ArrayList<>();
        for (int i = 0; i < roofs; i++) lines.add(roofLine());
        for (int i = 0; i < birds; i++) lines.add(birdLine());
        for (int i = 0; i < families; i++) lines.add(familyLine(birds + oracle.count(1)));
        return String.join(";", lines);
    }

    private String springText() {
        List<String> works = new ArrayList<>();
        for (int i = random.nextInt(6); i >= 0; i--) {
            switch (random.nextInt(5)) {
                case 0: works.add("w" + digit(7)); break;
                case 1: works.add("s" + digit(7) + digit(10)); break;
                case 2: works.add("x" + digit(6)); break;
                case 3: works.add("f" + digit(8) + ">" + digit(6)); break;
                default: works.add(random.nextInt(3) == 0 ? "d" : "d" + (1 + random.nextInt(9)));
            }
        }
        return String.join(";", works);
    }

    private String expression(int depth) {
        String out = "";
        for (int n = random.nextInt(3); n >= 0; n--) {
            if (random.nextInt(5) == 0) out += "-";
            int kind = random.nextInt(8);
            if (kind == 0) out += "" + random.nextInt(random.nextBoolean() ? 10 : 1000);
            else if (kind == 1 && depth < 5) out += "(" + expression(depth + 1) + ")";
            else out += "hsvwrikodf".charAt(random.nextInt(10));
            if (n > 0) out += "++--**/<>=".charAt(random.nextInt(10));
        }
        return out;
    }

    private String aimText() {
        String out = "";
        List<Integer> free = new ArrayList<>();
        for (int r = 0; r < oracle.count(0); r++) free.add(r);
        for (int b = 0; b < oracle.count(1); b++) {
            if (free.isEmpty() || random.nextInt(5) == 0) out += "-";
            else out += free.remove(random.nextInt(free.size()));
        }
        return out;
    }

    private String spoiled(String text) {
        int at = random.nextInt(text.length() + 1);
        char c = "rbfwsxd;@/*>0123456789-+()<=hkvio\u00e9".charAt(random.nextInt(34));
        switch (random.nextInt(3)) {
            case 0: return text.substring(0, at);
            case 1: return text.substring(0, at) + c + text.substring(at);
            default: return at == text.length() ? text + c : text.substring(0, at) + c + text.substring(at + 1);
        }
    }

    private boolean callWithText(String kind) {
        String text;
        switch (kind) {
            case "TOWN": text = townText(random.nextInt(3), random.nextInt(3), random.nextInt(3)); break;
            case "RULE": text = random.nextBoolean() ? RULES[random.nextInt(RULES.length)] : expression(0); break;
            case "FROST":
                text = "";
                for (int i = random.nextInt(6); i > 0; i--) text += digit(random.nextInt(3) == 0 ? 10 : 3);
                break;
            case "SPRING": text = springText(); break;
            default: text = aimText();
        }
        if (random.nextInt(4) == 0) text = spoiled(text);
        if (random.nextInt(25) == 0) while (text.length() < 70) text += (random.nextInt(8) == 0 ? "" : ";") + text + "1";
        return tell(text.length() > 80 ? text.substring(0, 80) : text) && call(kind.toLowerCase());
    }

    private int draw(int most) {
        return random.nextInt(12) == 0 ? random.nextInt(most + 4) - 2 : random.nextInt(most + 1);
    }

    private boolean callWithNumbers(String name) {
        int roof = draw(Math.max(0, oracle.count(0) - 1));
        int bird = draw(Math.max(0, oracle.count(1) - 1));
        int family = draw(Math.max(0, oracle.count(2) - 1));
        int lord = random.nextInt(4) == 0 ? draw(3) : random.nextInt(2);
        int n = random.nextInt(8) == 0 ? draw(60) : draw(8);
        int short0 = random.nextInt(8) == 0 ? draw(30) : draw(5);
        switch (name) {
            case "roof": return call(name, roof, draw(6));
            case "bird": return call(name, bird, draw(5));
            case "family": return call(name, family, draw(4));
            case "worth": return call(name, roof, bird);
            case "owes": return call(name, family, lord);
            case "lord": return call(name, lord);
            case "later": return call(name, bird, n);
            case "moves": return call(name, family, n);
            case "income": return call(name, lord, n);
            case "homeless":
            case "strengths":
            case "latest": return call(name, bird);
            case "bears": return call(name, n);
            case "wheel": return call(name, lord, n);
            case "courts": return call(name, draw(random.nextInt(9) == 0 ? 20 : 6), draw(12));
            case "win": return call(name, bird, roof, n);
            case "drive": return call(name, bird, n);
            case "choose": return call(name, family, n);
            case "chance": return call(name, roof, short0, draw(10));
            case "safest": return call(name, short0, draw(10));
            case "count": return call(name, draw(11));
            case "row": return call(name, draw(6));
            case "build": return call(name, roof, draw(4), draw(random.nextBoolean() ? 9 : 1));
            case "ring": return call(name, bird, draw(1), random.nextInt(5) == 0 ? draw(99) : draw(9));
            case "swear": return call(name, family, bird);
            case "sheet": return call(name, draw(3), draw(6), random.nextInt(5) == 0 ? random.nextInt() : draw(9), random.nextInt(5) == 0 ? random.nextInt() : draw(3));
            case "days": return call(name, n);
            case "pay": return call(name, family, lord, random.nextInt(4) == 0 ? draw(999) : draw(9));
            case "seen": return seeSomething(bird, roof, n);
            case "keep":
            case "again": return call(name, draw(1));
            default: return call(name);
        }
    }

    /** Mostly what will be so with another STRENGTH, since what is drawn blindly hardly ever holds. */
    private boolean seeSomething(int bird, int roof, int n) {
        if (!oracle.isBird(bird) || n < 1 || n > 60 || random.nextInt(4) == 0) return call("seen", bird, random.nextInt(4) == 0 ? -1 : roof, n);
        Oracle.World w = oracle.world.copy();
        w.birds.get(bird)[random.nextInt(2)] = 1 + random.nextInt(9);
        return call("seen", bird, w.after(n).nests.get(bird), n);
    }

    /** As much as there is room for. */
    private boolean tellFullTown() {
        return tell(townText(6, 0, 0)) && call("town") && tell(townText(0, 6, 0)) && call("town")
            && tell(townText(0, 0, 8)) && call("town");
    }

    private boolean run(long seed) {
        boolean big = random.nextInt(12) == 0;
        boolean good = seed % 15 == 0 ? tellFullTown() : tell(townText(big ? 6 : 1 + random.nextInt(5), big ? 5 : 1 + random.nextInt(5), random.nextInt(4))) && call("town");
        good = good && tell(RULES[random.nextInt(RULES.length)]) && call("rule");
        for (int i = 0; i < 40 && good; i++) {
            String name = random.nextInt(2) == 0 ? ASKING[random.nextInt(ASKING.length)] : CHANGING[random.nextInt(CHANGING.length)];
            good = Character.isUpperCase(name.charAt(0)) ? callWithText(name) : callWithNumbers(name);
            if (random.nextInt(10) == 0 && good) good = tell(aimText()) && call("aim") && call("fewest") && call("gently");
        }
        return good;
    }

    /** A call with some of all groups of these numbers, on a town with all kinds of things. */
    private boolean extremes(Method method, int from, int to) {
        boolean good = tell(TownTest.TOWN) && call("town") && tell("h+v-s+o+d/3") && call("rule") && tell("0103") && call("frost")
            && call("days", 5) && call("pay", 0, 0, 1) && call("keep", 1) && call("seen", 0, 2, 3)
            && tell("21-") && call("aim") && tell("x;") && call("income", 0, 9);
        for (int code = from; code < to && good; code++) {
            int[] args = new int[method.getParameterCount()];
            for (int i = 0, left = code; i < args.length; i++, left /= EXTREMES.length) args[i] = EXTREMES[left % EXTREMES.length];
            good = call(method.getName(), args);
        }
        return good;
    }

    /** Nothing but what is promised is thrown, whatever the numbers are. */
    private static boolean allExtremes() {
        boolean good = true;
        for (Method method : OF_ORACLE.values()) {
            int total = 1;
            for (int i = 0; i < method.getParameterCount(); i++) total *= EXTREMES.length;
            for (int from = 0; from < total && good; from += 60) {
                OracleTest test = new OracleTest(0);
                good = test.extremes(method, from, Math.min(total, from + 60)) || test.tellAll();
            }
        }
        return good;
    }

    /** What was asked, for it went wrong. */
    private synchronized boolean tellAll() {
        System.out.println(String.join("\n  ", told));
        return false;
    }

    public static void main(String[] args) {
        int runs = args.length > 0 ? Integer.parseInt(args[0]) : 1500;
        long first = args.length > 1 ? Long.parseLong(args[1]) : 1;
        boolean good = LongStream.range(first, first + runs).parallel().allMatch(seed -> {
            OracleTest test = new OracleTest(seed);
            return test.run(seed) || test.tellAll();
        });
        if (!good || !allExtremes()) {
            System.out.println("OracleTest: the class and the oracle differ");
            System.exit(1);
        }
        System.out.println("OracleTest: " + runs + " runs, " + ASKED + " calls, all agree");
    }
}
