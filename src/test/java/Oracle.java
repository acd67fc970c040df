import java.math.BigInteger;
import java.util.ArrayDeque;
import java.util.ArrayList;
import java.util.Arrays;
import java.util.HashMap;
import java.util.List;
import java.util.Map;
import java.util.NoSuchElementException;
import java.util.regex.Matcher;
import java.util.regex.Pattern;

/**
 * The document once more, in its plainest form and with the whole library: no tables, no closed formulas, texts by
 * regular expressions, searches over whole maps. Slow, and written apart from the class that it is compared with.
 */
public final class Oracle {
    static final class World implements Cloneable {
        int day;
        List<int[]> roofs = new ArrayList<>();
        List<int[]> birds = new ArrayList<>();
        List<Integer> nests = new ArrayList<>();
        List<int[]> families = new ArrayList<>();
        List<Integer> homes = new ArrayList<>();
        List<Integer> moves = new ArrayList<>();
        List<int[]> frogs = new ArrayList<>();
        String rule = "";
        String frost = "";

        World copy() {
            World w = new World();
            w.day = day;
            for (int[] r : roofs) w.roofs.add(r.clone());
            for (int[] b : birds) w.birds.add(b.clone());
            w.nests.addAll(nests);
            for (int[] f : families) w.families.add(f.clone());
            w.homes.addAll(homes);
            w.moves.addAll(moves);
            for (int[] f : frogs) w.frogs.add(f.clone());
            w.rule = rule;
            w.frost = frost;
            return w;
        }

        int worth(int roof, int bird) {
            Map<Character, Integer> things = new HashMap<>();
            int[] r = roofs.get(roof);
            things.put('h', r[0]);
            things.put('s', r[1]);
            things.put('v', r[2]);
            things.put('w', r[3]);
            things.put('r', roof);
            things.put('i', bird);
            things.put('k', birds.get(bird)[0]);
            things.put('o', nests.get(bird) == roof ? 1 : 0);
            things.put('d', day);
            things.put('f', (int) families.stream().filter(f -> f[0] == bird).count());
            int v = new Eval(rule.isEmpty() ? "h+v-s" : rule, things).comparison();
            return v < -999 ? -999 : v > 999 ? 999 : v;
        }

        int target(int bird) {
            int best = -1;
            for (int r = 0; r < roofs.size(); r++) {
                int on = nests.indexOf(r);
                boolean open = on < 0 || birds.get(on)[0] < birds.get(bird)[0];
                if (open && (best < 0 || worth(r, bird) > worth(best, bird))) best = r;
            }
            if (best < 0) return -1;
            int own = nests.get(bird) < 0 ? 0 : worth(nests.get(bird), bird);
            return worth(best, bird) > own ? best : -1;
        }

        long[] pass() {
            int cold = frost.isEmpty() ? 0 : frost.charAt(day % frost.length()) - '0';
            List<Integer> ahead = new ArrayList<>(nests);
            for (int b = 0; b < birds.size(); b++) {
                if (birds.get(b)[1] <= day && birds.get(b)[0] <= cold) nests.set(b, -1);
            }
            for (int b = 0; b < birds.size(); b++) {
                if (birds.get(b)[1] > day || birds.get(b)[0] <= cold) continue;
                int to = target(b);
                if (to < 0) continue;
                int on = nests.indexOf(to);
                if (on >= 0) nests.set(on, -1);
                nests.set(b, to);
            }
            long[] sums = new long[6];
            for (int f = 0; f < families.size(); f++) {
                int to = nests.get(families.get(f)[0]);
                if (to >= 0 && to != homes.get(f)) {
                    moves.set(f, moves.get(f) + 1);
                    sums[4]++;
                }
                homes.set(f, to);
                if (to >= 0) {
                    int lord = roofs.get(to)[4];
                    frogs.get(f)[lord] = Math.min(9999, frogs.get(f)[lord] + families.get(f)[1]);
                    sums[lord] += families.get(f)[1];
                }
            }
            for (int b = 0; b < birds.size(); b++) if (!ahead.get(b).equals(nests.get(b))) sums[5]++;
            day++;
            return sums;
        }

        World after(int n) {
            World w = copy();
            for (int i = 0; i < n; i++) w.pass();
            return w;
        }

        int nowhere() {
            return (int) homes.stream().filter(h -> h < 0).count();
        }

        int under(int lord) {
            return (int) homes.stream().filter(h -> h >= 0 && roofs.get(h)[4] == lord).count();
        }

        World without(int bird) {
            World w = copy();
            w.nests.set(bird, -1);
            w.birds.get(bird)[1] = Integer.MAX_VALUE;
            return w;
        }
    }

    /** A text worked out as it stands, by descent. */
    static final class Eval {
        final String s;
        final Map<Character, Integer> things;
        int p = 0;

        Eval(String s, Map<Character, Integer> things) {
            this.s = s;
            this.things = things;
        }

        boolean next(String of) {
            return p < s.length() && of.indexOf(s.charAt(p)) >= 0;
        }

        int comparison() {
            int a = sum();
            if (!next("<>=")) return a;
            char c = s.charAt(p++);
            int b = sum();
            return (c == '<' ? a < b : c == '>' ? a > b : a == b) ? 1 : 0;
        }

        int sum() {
            int a = product();
            while (next("+-")) {
                char c = s.charAt(p++);
                int b = product();
                a = c == '+' ? a + b : a - b;
            }
            return a;
        }

        int product() {
            int a = thing();
            while (next("*/")) {
                char c = s.charAt(p++);
                int b = thing();
                a = c == '*' ? a * b : b == 0 ? 0 : a / b;
            }
            return a;
        }

        int thing() {
            char c = s.charAt(p++);
            if (c == '-') return -thing();
            if (c == '(') {
                int v = comparison();
                p++;
                return v;
            }
            if (c >= '0' && c <= '9') {
                int v = c - '0';
                while (next("0123456789")) v = v * 10 + s.charAt(p++) - '0';
                return v;
            }
            return things.get(c);
        }
    }

    static final Pattern TOWN;
    static final Pattern RULE;
    static final Pattern SPRING;
    static final Pattern FROST = Pattern.compile("[0-9]*");

    static {
        String line = "(?:r[0-9]{3}w?@[0-3]|b[1-9](?:/[0-9]{1,2})?|f[0-9](?:\\*[0-9])?)";
        TOWN = Pattern.compile(line + "(?:;" + line + ")*");
        String work = "(?:w[0-9]|s[0-9]{2}|x[0-9]|f[0-9]>[0-9]|d[1-9]?)";
        SPRING = Pattern.compile(work + "(?:;" + work + ")*");
        String expression = null;
        for (int depth = 0; depth <= 4; depth++) {
            String thing = "-*+(?:[0-9]{1,3}|[hsvwrikodf]" + (expression == null ? "" : "|\\(" + expression + "\\)") + ")";
            String product = thing + "(?:[*/]" + thing + ")*";
            String sum = product + "(?:[+-]" + product + ")*";
            expression = "(?:" + sum + "(?:[<>=]" + sum + ")?)";
        }
        RULE = Pattern.compile(expression);
    }

    static boolean viable(Pattern pattern, String prefix) {
        Matcher m = pattern.matcher(prefix);
        return m.matches() || m.hitEnd();
    }

    /** The sign that can't stand there, or -1. */
    static int wrongAt(Pattern pattern, String text, int most) {
        for (int p = 0; p < text.length(); p++) {
            if (p == most || !viable(pattern, text.substring(0, p + 1))) return p;
        }
        return pattern.matcher(text).matches() ? -1 : text.length();
    }

    World world = new World();
    String text = "";
    List<Integer> row = new ArrayList<>();
    final ArrayDeque<Object[]> past = new ArrayDeque<>();
    final World[] kept = new World[2];
    List<Integer> goal = null;
    int goalRoofs;
    final List<int[]> sightings = new ArrayList<>();

    void put(long... numbers) {
        row = new ArrayList<>();
        for (long n : numbers) row.add((int) n);
    }

    boolean isRoof(int r) { return r >= 0 && r < world.roofs.size(); }
    boolean isBird(int b) { return b >= 0 && b < world.birds.size(); }
    boolean isFamily(int f) { return f >= 0 && f < world.families.size(); }
    static boolean in(int v, int a, int b) { return v >= a && v <= b; }

    String take() {
        String t = text;
        text = "";
        return t;
    }

    public int sign(int v) {
        if (text.length() > 76) return -1;
        text += "" + (char) (v >>> 24) + (char) (v >> 16 & 255) + (char) (v >> 8 & 255) + (char) (v & 255);
        return text.length();
    }

    public boolean end(int n) {
        if (!in(n, 0, text.length())) return false;
        text = text.substring(0, n);
        return true;
    }

    public int town() {
        String t = take();
        if (t.isEmpty()) return 0;
        int wrong = wrongAt(TOWN, t, 76);
        int roofs = world.roofs.size(), birds = world.birds.size(), families = world.families.size();
        for (int p = 0; p < t.length() && (wrong < 0 || p < wrong); p++) {
            if (p > 0 && t.charAt(p - 1) != ';') continue;
            char c = t.charAt(p);
            boolean room = c == 'r' ? roofs++ < 6 : c == 'b' ? birds++ < 6 : families++ < 8;
            if (!room) wrong = p;
            else if (c == 'f' && p + 1 < t.length() && (wrong < 0 || p + 1 < wrong) && t.charAt(p + 1) - '0' >= birds) wrong = p + 1;
        }
        if (wrong >= 0) return -1 - wrong;
        String[] lines = t.split(";");
        for (String line : lines) {
            if (line.charAt(0) == 'r') {
                boolean wheel = line.charAt(4) == 'w';
                world.roofs.add(new int[] {line.charAt(1) - '0', line.charAt(2) - '0', line.charAt(3) - '0', wheel ? 1 : 0, line.charAt(line.length() - 1) - '0'});
            } else if (line.charAt(0) == 'b') {
                String[] parts = line.substring(1).split("/");
                world.birds.add(new int[] {Integer.parseInt(parts[0]), parts.length > 1 ? Integer.parseInt(parts[1]) : 0});
                world.nests.add(-1);
            } else {
                String[] parts = line.substring(1).split("\\*");
                world.families.add(new int[] {Integer.parseInt(parts[0]), parts.length > 1 ? Integer.parseInt(parts[1]) : 1});
                world.homes.add(-1);
                world.moves.add(0);
                world.frogs.add(new int[4]);
            }
        }
        past.clear();
        kept[0] = null;
        kept[1] = null;
        return lines.length;
    }

    public int rule() {
        String t = take();
        int wrong = t.isEmpty() ? -1 : wrongAt(RULE, t, 40);
        if (wrong >= 0) return -1 - wrong;
        world.rule = t;
        return 0;
    }

    public int frost() {
        String t = take();
        int wrong = wrongAt(FROST, t, 40);
        if (wrong >= 0) return -1 - wrong;
        world.frost = t;
        return t.length();
    }

    public int roof(int roof, int what) {
        if (!isRoof(roof) || !in(what, 0, 6)) throw new NoSuchElementException();
        if (what == 5) return world.nests.indexOf(roof);
        if (what == 6) return (int) world.homes.stream().filter(h -> h == roof).count();
        return world.roofs.get(roof)[what];
    }

    public int bird(int bird, int what) {
        if (!isBird(bird) || !in(what, 0, 5)) throw new NoSuchElementException();
        if (what < 2) return world.birds.get(bird)[what];
        int nest = world.nests.get(bird);
        if (what == 2) return nest;
        if (what == 3) return nest < 0 ? 0 : world.worth(nest, bird);
        if (what == 4) return (int) world.families.stream().filter(f -> f[0] == bird).count();
        int best = -1;
        for (int r = 0; r < world.roofs.size(); r++) if (best < 0 || world.worth(r, bird) > world.worth(best, bird)) best = r;
        return best;
    }

    public int family(int family, int what) {
        if (!isFamily(family) || !in(what, 0, 4)) throw new NoSuchElementException();
        if (what < 2) return world.families.get(family)[what];
        if (what == 2) return world.homes.get(family);
        if (what == 3) return world.moves.get(family);
        return Arrays.stream(world.frogs.get(family)).sum();
    }

    public int worth(int roof, int bird) {
        if (!isRoof(roof) || !isBird(bird)) throw new NoSuchElementException();
        return world.worth(roof, bird);
    }

    public int build(int roof, int what, int v) {
        if (!isRoof(roof) || !in(what, 0, 4) || !in(v, 0, what == 3 ? 1 : what == 4 ? 3 : 9)) return -1;
        int old = world.roofs.get(roof)[what];
        world.roofs.get(roof)[what] = v;
        return old;
    }

    public int ring(int bird, int what, int v) {
        if (!isBird(bird) || !in(what, 0, 1) || !in(v, what == 0 ? 1 : 0, what == 0 ? 9 : 99)) return -1;
        int old = world.birds.get(bird)[what];
        world.birds.get(bird)[what] = v;
        return old;
    }

    public int swear(int family, int bird) {
        if (!isFamily(family) || !isBird(bird)) return -1;
        int old = world.families.get(family)[0];
        world.families.get(family)[0] = bird;
        return old;
    }

    public int sheet(int kind, int n, int f, int step) {
        if (!in(kind, 0, 3) || n > 6) return -1;
        if (kind < 3 && n < 0) return -2;
        int sum = 0;
        for (int r = 0; r < world.roofs.size(); r++) {
            int v = 0;
            if (kind < 3 && r < n) {
                v = f;
                for (int i = 0; i < r; i++) v += step;
                if (kind == 0) v = (byte) v;
                if (kind == 1) v = (short) v;
                v = v < 0 ? 0 : v > 9 ? 9 : v;
            }
            world.roofs.get(r)[2] = v;
            sum += v;
        }
        return kind == 3 ? -3 : sum;
    }

    void remember(World before, boolean spring) {
        past.addLast(new Object[] {before, spring});
        if (past.size() > 12) past.removeFirst();
    }

    void load(World from, boolean spring) {
        World w = from.copy();
        world.day = w.day;
        world.nests = w.nests;
        world.homes = w.homes;
        world.moves = w.moves;
        world.frogs = w.frogs;
        if (!spring) return;
        for (int r = 0; r < w.roofs.size(); r++) {
            world.roofs.get(r)[1] = w.roofs.get(r)[1];
            world.roofs.get(r)[3] = w.roofs.get(r)[3];
        }
        for (int f = 0; f < w.families.size(); f++) world.families.get(f)[0] = w.families.get(f)[0];
    }

    public int day() {
        remember(world.copy(), false);
        long[] sums = world.pass();
        put(sums[4], world.nowhere());
        return (int) sums[5];
    }

    public int days(int n) {
        if (!in(n, 0, 60)) return -1;
        if (n > 0) remember(world.copy(), false);
        long frogs = 0, moves = 0;
        for (int i = 0; i < n; i++) {
            long[] sums = world.pass();
            frogs += sums[0] + sums[1] + sums[2] + sums[3];
            moves += sums[4];
        }
        put(frogs, world.nowhere());
        return (int) moves;
    }

    public int spring() {
        String t = take();
        int wrong = t.isEmpty() ? -1 : wrongAt(SPRING, t, 60);
        if (wrong >= 0) return -1 - wrong;
        World before = world.copy();
        int done = 0;
        long moves = 0;
        boolean stuck = false;
        for (String work : t.isEmpty() ? new String[0] : t.split(";")) {
            int a = work.length() > 1 ? work.charAt(1) - '0' : 1;
            int b = work.charAt(work.length() - 1) - '0';
            char c = work.charAt(0);
            stuck = (c == 'w' || c == 's') && !isRoof(a) || c == 'x' && (!isBird(a) || world.nests.get(a) < 0) || c == 'f' && (!isFamily(a) || !isBird(b));
            if (stuck) break;
            if (c == 'w') world.roofs.get(a)[3] ^= 1;
            if (c == 's') world.roofs.get(a)[1] = b;
            if (c == 'x') world.nests.set(a, -1);
            if (c == 'f') world.families.get(a)[0] = b;
            if (c == 'd') for (int i = 0; i < a; i++) moves += world.pass()[4];
            done++;
        }
        if (done > 0) remember(before, true);
        put(stuck ? 1 : 0, moves);
        return done;
    }

    public int pay(int family, int lord, int n) {
        if (!isFamily(family) || !in(lord, 0, 3) || !in(n, 1, 999)) return -1;
        if (world.frogs.get(family)[lord] < n) return -2;
        remember(world.copy(), false);
        return world.frogs.get(family)[lord] -= n;
    }

    public int owes(int family, int lord) {
        return isFamily(family) && in(lord, 0, 3) ? world.frogs.get(family)[lord] : -1;
    }

    public int lord(int lord) {
        if (!in(lord, 0, 3)) return -1;
        put(world.nests.stream().filter(r -> r >= 0 && world.roofs.get(r)[4] == lord).count(), world.under(lord));
        return world.frogs.stream().mapToInt(f -> f[lord]).sum();
    }

    public int undo() {
        if (past.isEmpty()) return -1;
        Object[] last = past.removeLast();
        load((World) last[0], (Boolean) last[1]);
        return past.size();
    }

    void putNests(List<Integer> nests) {
        row = new ArrayList<>(nests);
    }

    public int later(int bird, int n) {
        if (!isBird(bird) || !in(n, 0, 60)) return -2;
        putNests(world.after(n).nests);
        return row.get(bird);
    }

    public int calm() {
        for (int d = 0; d <= 60; d++) {
            World w = world.after(d);
            if (w.after(1).nests.equals(w.nests)) {
                putNests(w.nests);
                return d;
            }
        }
        return -2;
    }

    public int moves(int family, int n) {
        if (!isFamily(family) || !in(n, 0, 60)) return -1;
        World w = world.copy();
        int nowhere = 0, frogs = 0;
        for (int i = 0; i < n; i++) {
            w.pass();
            if (w.homes.get(family) < 0) nowhere++;
            else frogs += w.families.get(family)[1];
        }
        put(nowhere, frogs);
        return w.moves.get(family) - world.moves.get(family);
    }

    public int income(int lord, int n) {
        if (!in(lord, 0, 3) || !in(n, 0, 60)) return -1;
        World w = world.copy();
        long[] all = new long[4];
        for (int i = 0; i < n; i++) {
            long[] sums = w.pass();
            for (int l = 0; l < 4; l++) all[l] += sums[l];
        }
        put(all);
        return (int) all[lord];
    }

    public int homeless(int bird) {
        if (!isBird(bird)) return -1;
        if (world.nests.get(bird) < 0) return -3;
        for (int d = 1; d <= 60; d++) if (world.after(d).nests.get(bird) < 0) return d;
        return -2;
    }

    public int bears(int n) {
        if (!in(n, 1, 60)) return -1;
        int best = -2;
        for (int cold = 0; cold <= 9; cold++) {
            World w = world.copy();
            w.frost = "" + cold;
            if (w.after(n).nowhere() == 0) best = cold;
        }
        return best;
    }

    public int rests() {
        int bits = 0;
        for (int b = 0; b < world.birds.size(); b++) if (world.target(b) >= 0) bits |= 1 << b;
        put(bits);
        return bits == 0 ? 1 : 0;
    }

    /** All ways at rest in the order of their rows, or null if there are too many to look through. */
    List<List<Integer>> atRest() {
        int roofs = world.roofs.size(), birds = world.birds.size();
        if (BigInteger.valueOf(roofs + 1).pow(birds).intValueExact() > 20000) return null;
        List<List<Integer>> all = new ArrayList<>();
        int total = BigInteger.valueOf(roofs + 1).pow(birds).intValueExact();
        for (int code = 0; code < total; code++) {
            Integer[] nests = new Integer[birds];
            int left = code;
            boolean twice = false;
            for (int b = birds - 1; b >= 0; b--) {
                nests[b] = left % (roofs + 1) - 1;
                left /= roofs + 1;
                for (int c = b + 1; c < birds; c++) twice |= nests[b] >= 0 && nests[c].equals(nests[b]);
            }
            if (twice) continue;
            World w = world.copy();
            w.nests = new ArrayList<>(Arrays.asList(nests));
            boolean rest = true;
            for (int b = 0; b < birds && rest; b++) rest = w.target(b) < 0;
            if (rest) all.add(w.nests);
        }
        return all;
    }

    public int ways() {
        List<List<Integer>> all = atRest();
        if (all == null) return -3;
        row = all.isEmpty() ? new ArrayList<>() : all.get(0);
        return all.size();
    }

    public int kindest() {
        List<List<Integer>> all = atRest();
        if (all == null) return -3;
        int best = -2;
        for (List<Integer> nests : all) {
            int live = (int) world.families.stream().filter(f -> nests.get(f[0]) >= 0).count();
            if (live > best) {
                best = live;
                row = nests;
            }
        }
        return best;
    }

    /** The ROOF, how many then, how many as it is. */
    static int[] wheelOf(World w, int lord, int n) {
        int best = -1, most = -1;
        for (int r = 0; r < w.roofs.size(); r++) {
            if (w.roofs.get(r)[4] != lord) continue;
            World with = w.copy();
            with.roofs.get(r)[3] = 1;
            int live = with.after(n).under(lord);
            if (live > most) {
                most = live;
                best = r;
            }
        }
        return new int[] {best, most, w.after(n).under(lord)};
    }

    public int wheel(int lord, int n) {
        if (!in(lord, 0, 3) || !in(n, 0, 60)) return -1;
        int[] found = wheelOf(world, lord, n);
        if (found[0] < 0) return -2;
        put(found[1], found[2]);
        return found[0];
    }

    public int courts(int n, int m) {
        if (!in(n, 1, 20) || !in(m, 0, 12)) return -1;
        World w = world.copy();
        int rounds = 0;
        boolean quiet = false;
        while (rounds < m && !quiet) {
            quiet = true;
            rounds++;
            for (int l = 0; l < 4; l++) {
                int[] found = wheelOf(w, l, n);
                if (found[0] >= 0 && found[1] > found[2] && w.roofs.get(found[0])[3] == 0) {
                    w.roofs.get(found[0])[3] = 1;
                    quiet = false;
                }
            }
        }
        int bits = 0;
        for (int r = 0; r < w.roofs.size(); r++) bits |= w.roofs.get(r)[3] << r;
        put(quiet ? 1 : 0, bits);
        return rounds;
    }

    public int win(int bird, int roof, int n) {
        if (!isBird(bird) || !isRoof(roof) || !in(n, 1, 60)) return -1;
        for (int v = 0; v <= 9; v++) {
            World w = world.copy();
            w.roofs.get(roof)[2] = v;
            if (w.after(n).nests.get(bird) == roof) return v;
        }
        return -2;
    }

    public int drive(int bird, int n) {
        if (!isBird(bird) || !in(n, 1, 60)) return -1;
        int nest = world.nests.get(bird);
        if (nest < 0) return -3;
        for (int v = 0; v <= 9; v++) {
            World w = world.copy();
            w.roofs.get(nest)[1] = v;
            int then = w.after(n).nests.get(bird);
            if (then != nest) {
                put(then);
                return v;
            }
        }
        return -2;
    }

    public int choose(int family, int n) {
        if (!isFamily(family) || !in(n, 1, 60)) return -1;
        int own = world.families.get(family)[0];
        int best = -1, most = -1;
        for (int b = 0; b < world.birds.size(); b++) {
            World w = world.copy();
            w.families.get(family)[0] = b;
            int live = 0;
            for (int i = 0; i < n; i++) {
                w.pass();
                if (w.homes.get(family) >= 0) live++;
            }
            if (live > most || live == most && b == own) {
                most = live;
                best = b;
            }
        }
        put(most, most * world.families.get(family)[1]);
        return best;
    }

    public int aim() {
        String t = take();
        int birds = world.birds.size();
        if (t.isEmpty() && birds > 0) {
            goal = null;
            return 0;
        }
        List<Integer> told = new ArrayList<>();
        for (int p = 0; p < t.length(); p++) {
            int roof = t.charAt(p) == '-' ? -1 : t.charAt(p) - '0';
            if (p >= birds || t.charAt(p) != '-' && (!isRoof(roof) || told.contains(roof))) return -1 - p;
            told.add(roof);
        }
        if (told.size() < birds) return -1 - t.length();
        goal = told;
        goalRoofs = world.roofs.size();
        return birds;
    }

    boolean noGoal() {
        return goal == null || goal.size() != world.birds.size() || goalRoofs != world.roofs.size();
    }

    /** Breadth first, MOVES rising; the way to the goal is the first found, and so the least row. */
    int search(boolean gentle, int most) {
        List<List<Integer>> found = new ArrayList<>();
        List<int[]> from = new ArrayList<>();
        Map<List<Integer>, Integer> known = new HashMap<>();
        found.add(new ArrayList<>(world.nests));
        from.add(new int[] {-1, -1});
        known.put(found.get(0), 0);
        for (int i = 0; i < found.size() && !known.containsKey(goal); i++) {
            for (int code = 0; code < 60; code++) {
                int b = code / 10, r = code % 10;
                if (!isBird(b) || (r != 9 && !isRoof(r))) continue;
                List<Integer> nests = found.get(i);
                if (r == 9 ? gentle || nests.get(b) < 0 : nests.contains(r)) continue;
                if (gentle) {
                    World w = world.copy();
                    w.nests = nests;
                    if (w.worth(r, b) <= 0) continue;
                }
                List<Integer> to = new ArrayList<>(nests);
                to.set(b, r == 9 ? -1 : r);
                if (known.containsKey(to)) continue;
                if (found.size() == most) return -3;
                known.put(to, found.size());
                found.add(to);
                from.add(new int[] {i, code});
                if (to.equals(goal)) break;
            }
        }
        if (!known.containsKey(goal)) return -2;
        List<Integer> way = new ArrayList<>();
        for (int i = known.get(goal); i > 0; i = from.get(i)[0]) way.add(0, from.get(i)[1]);
        row = new ArrayList<>(way.subList(0, Math.min(10, way.size())));
        return way.size();
    }

    public int fewest() {
        return noGoal() ? -4 : search(false, Integer.MAX_VALUE);
    }

    public int gently() {
        return noGoal() ? -4 : search(true, 3000);
    }

    public int seen(int bird, int roof, int n) {
        if (!isBird(bird) || roof != -1 && !isRoof(roof) || !in(n, 1, 60) || sightings.size() == 10) return -1;
        sightings.add(new int[] {bird, roof, n});
        return sightings.size();
    }

    public int forget() {
        int n = sightings.size();
        sightings.clear();
        return n;
    }

    boolean so(World w) {
        for (int[] s : sightings) if (w.after(s[2]).nests.get(s[0]) != s[1]) return false;
        return true;
    }

    public int strengths(int bird) {
        if (!isBird(bird)) return -1;
        int bits = 0;
        for (int k = 1; k <= 9; k++) {
            World w = world.copy();
            w.birds.get(bird)[0] = k;
            if (so(w)) bits |= 1 << k;
        }
        return bits;
    }

    public int latest(int bird) {
        if (!isBird(bird)) return -1;
        for (int a = 99; a >= 0; a--) {
            World w = world.copy();
            w.birds.get(bird)[1] = a;
            if (so(w)) return a;
        }
        return -2;
    }

    public int absent() {
        int bits = 0;
        for (int b = 0; b < world.birds.size(); b++) if (so(world.without(b))) bits |= 1 << b;
        put(so(world) ? 1 : 0);
        return bits;
    }

    /** How likely each BIRD has a NEST (or each ROOF a BIRD), as the upper number of tenths to the power of BIRDS. */
    BigInteger[] likely(int n, int t, boolean ofRoofs) {
        BigInteger[] sums = new BigInteger[ofRoofs ? world.roofs.size() : world.birds.size()];
        Arrays.fill(sums, BigInteger.ZERO);
        int birds = world.birds.size();
        for (int away = 0; away < 1 << birds; away++) {
            World w = world;
            BigInteger weight = BigInteger.ONE;
            for (int b = 0; b < birds; b++) {
                boolean gone = (away >> b & 1) != 0;
                weight = weight.multiply(BigInteger.valueOf(gone ? t : 10 - t));
                if (gone) w = w.without(b);
            }
            if (weight.signum() == 0) continue;
            World then = w.after(n);
            for (int i = 0; i < sums.length; i++) {
                if (ofRoofs ? then.nests.contains(i) : then.nests.get(i) >= 0) sums[i] = sums[i].add(weight);
            }
        }
        return sums;
    }

    void putFraction(BigInteger upper) {
        BigInteger lower = BigInteger.TEN.pow(world.birds.size());
        BigInteger g = upper.gcd(lower);
        put(upper.divide(g).longValueExact(), lower.divide(g).longValueExact());
    }

    public int chance(int roof, int n, int t) {
        if (!isRoof(roof) || !in(n, 0, 30) || !in(t, 0, 10)) return -1;
        putFraction(likely(n, t, true)[roof]);
        return 0;
    }

    public int safest(int n, int t) {
        if (!in(n, 0, 30) || !in(t, 0, 10)) return -1;
        if (world.families.isEmpty()) return -2;
        BigInteger[] sums = likely(n, t, false);
        int best = 0;
        for (int f = 1; f < world.families.size(); f++) {
            if (sums[world.families.get(f)[0]].compareTo(sums[world.families.get(best)[0]]) > 0) best = f;
        }
        putFraction(sums[world.families.get(best)[0]]);
        return best;
    }

    public boolean keep(int i) {
        if (!in(i, 0, 1)) return false;
        kept[i] = world.copy();
        return true;
    }

    public boolean again(int i) {
        if (!in(i, 0, 1) || kept[i] == null) return false;
        load(kept[i], false);
        past.clear();
        return true;
    }

    static int bits(List<Integer> places) {
        int bits = 0;
        for (int i = 0; i < places.size(); i++) if (places.get(i) >= 0) bits |= 1 << i;
        return bits;
    }

    public int count(int what) {
        switch (what) {
            case 0: return world.roofs.size();
            case 1: return world.birds.size();
            case 2: return world.families.size();
            case 3: return world.day;
            case 4: return bits(world.nests);
            case 5: return bits(world.homes);
            case 6: return world.moves.stream().mapToInt(m -> m).sum();
            case 7: return world.frogs.stream().mapToInt(f -> Arrays.stream(f).sum()).sum();
            case 8: return past.size();
            case 9: return sightings.size();
            case 10: return row.size();
            case 11: return text.length();
            default: return -1;
        }
    }

    public int row(int i) {
        if (!in(i, 0, row.size() - 1)) throw new NoSuchElementException();
        return row.get(i);
    }
}
