import java.util.Arrays;
import java.util.NoSuchElementException;

/**
 * Storks that let the houses: roofs, birds, families and lords, days that go by and days to come.
 * The words in the comments are those of the document's Terms.
 */
public final class StorksLet {
    public static final int NONE = -1;

    private static final int MOST_ROOFS = 6;
    private static final int MOST_BIRDS = 6;
    private static final int MOST_FAMILIES = 8;
    private static final int LORDS = 4;
    private static final int HEIGHT = 0;
    private static final int SMOKE = 1;
    private static final int VIEW = 2;
    private static final int WHEEL = 3;
    private static final int LORD = 4;
    private static final int STRENGTH = 0;
    private static final int ARRIVAL = 1;
    private static final int NEVER = 1000000;
    private static final int MOST_SIGNS = 80;
    private static final int TOWN_SIGNS = 76;
    private static final int SPRING_SIGNS = 60;
    private static final int RULE_SIGNS = 40;
    private static final int FROST_SIGNS = 40;
    private static final int MOST_DAYS = 60;
    private static final int COURT_DAYS = 20;
    private static final int COURT_ROUNDS = 12;
    private static final int CHANCE_DAYS = 30;
    private static final int TENTHS = 10;
    private static final int MOST_WAYS = 20000;
    private static final int KEPT = 2;

    private final Signs text = new Signs();
    private final Row told = new Row();
    private final Town now = new Town();
    private final Town trial = new Town();
    private final Town draft = new Town();
    private Rule spareRule = new Rule();
    private final int[] spareFrost = new int[FROST_SIGNS];
    private final int[] steadyFrost = new int[1];
    private final Works works = new Works();
    private final History past = new History();
    private final int[][] stored = new int[KEPT][Town.STATE];
    private final int[] storedFor = new int[KEPT];
    private final Steps steps = new Steps();
    private Search search = null;
    private final Sightings sightings = new Sightings();
    private final int[] odds = new int[MOST_BIRDS];

    public StorksLet() {
        now.frost = new int[FROST_SIGNS];
        now.worths.law = new Rule();
    }

    // ---- the town

    public int sign(int v) {
        return text.addFour(v) ? text.length : NONE;
    }

    public boolean end(int n) {
        return text.cutTo(n);
    }

    public int town() {
        draft.copyFrom(now);
        int lines = Lines.readTown(text, draft);
        text.empty();
        if (lines > 0) {
            now.copyFrom(draft);
            past.clear();
        }
        return lines;
    }

    public int rule() {
        int wrong = spareRule.read(text);
        text.empty();
        if (wrong != NONE) {
            return -1 - wrong;
        }
        Rule former = now.worths.law;
        now.worths.law = spareRule;
        now.worths.spoil();
        spareRule = former;
        return 0;
    }

    public int frost() {
        int digits = Lines.readFrost(text, spareFrost);
        text.empty();
        if (digits >= 0) {
            System.arraycopy(spareFrost, 0, now.frost, 0, digits);
            now.frosts = digits;
        }
        return digits;
    }

    public int roof(int roof, int what) throws NoSuchElementException {
        if (!now.isRoof(roof)) {
            throw new NoSuchElementException("no such roof");
        }
        switch (what) {
            case 0:
            case 1:
            case 2:
            case 3:
            case 4:
                return now.trait(what, roof);
            case 5:
                return now.sitter[roof];
            case 6:
                return now.livingOn(roof);
            default:
                throw new NoSuchElementException("a roof has no such thing");
        }
    }

    public int bird(int bird, int what) throws NoSuchElementException {
        if (!now.isBird(bird)) {
            throw new NoSuchElementException("no such bird");
        }
        switch (what) {
            case 0:
                return now.strength[bird];
            case 1:
                return now.arrival[bird];
            case 2:
                return now.nest[bird];
            case 3:
                return now.nest[bird] == NONE ? 0 : now.worthNow(now.nest[bird], bird);
            case 4:
                return now.familiesOf(bird);
            case 5:
                return now.dearestRoof(bird);
            default:
                throw new NoSuchElementException("a bird has no such thing");
        }
    }

    public int family(int family, int what) throws NoSuchElementException {
        if (!now.isFamily(family)) {
            throw new NoSuchElementException("no such family");
        }
        switch (what) {
            case 0:
                return now.keeper[family];
            case 1:
                return now.rent[family];
            case 2:
                return now.home[family];
            case 3:
                return now.moved[family];
            case 4:
                return now.owedBy(family);
            default:
                throw new NoSuchElementException("a family has no such thing");
        }
    }

    public int worth(int roof, int bird) throws NoSuchElementException {
        if (!now.isRoof(roof) || !now.isBird(bird)) {
            throw new NoSuchElementException("no such roof or bird");
        }
        return now.worthNow(roof, bird);
    }

    public int build(int roof, int what, int v) {
        if (!now.isRoof(roof) || what < HEIGHT || what > LORD || v < 0 || v > mostOfTrait(what)) {
            return NONE;
        }
        int former = now.trait(what, roof);
        now.setTrait(what, roof, v);
        return former;
    }

    public int ring(int bird, int what, int v) {
        if (!now.isBird(bird)) {
            return NONE;
        }
        if (what == STRENGTH && v >= 1 && v <= 9) {
            int former = now.strength[bird];
            now.setStrength(bird, v);
            return former;
        }
        if (what == ARRIVAL && v >= 0 && v <= 99) {
            int former = now.arrival[bird];
            now.arrival[bird] = v;
            return former;
        }
        return NONE;
    }

    public int swear(int family, int bird) {
        if (!now.isFamily(family) || !now.isBird(bird)) {
            return NONE;
        }
        int former = now.keeper[family];
        now.setKeeper(family, bird);
        return former;
    }

    public int sheet(int kind, int n, int f, int step) {
        if (kind < 0 || kind > 3 || n > MOST_ROOFS) {
            return NONE;
        }
        boolean missing = kind == 3;
        if (!missing && n < 0) {
            return -2;
        }
        int entries = missing ? 0 : n;
        int sum = 0;
        for (int r = 0; r < now.roofs; r++) {
            int view = r < entries ? sheetEntry(kind, f + r * step) : 0;
            now.setTrait(VIEW, r, view);
            sum += view;
        }
        return missing ? -3 : sum;
    }

    // ---- days

    public int day() {
        now.saveTo(past.slot(), false);
        past.commit();
        int movesAhead = now.movesOfAll();
        now.passDays(1);
        told.putTwo(now.movesOfAll() - movesAhead, now.nowhere());
        return now.changedNests();
    }

    public int days(int n) {
        if (n < 0 || n > MOST_DAYS) {
            return NONE;
        }
        if (n > 0) {
            now.saveTo(past.slot(), false);
            past.commit();
        }
        int movesAhead = now.movesOfAll();
        now.startDues();
        now.passDays(n);
        told.putTwo(now.duesOfAll(), now.nowhere());
        return now.movesOfAll() - movesAhead;
    }

    public int spring() {
        int wrong = works.read(text);
        text.empty();
        if (wrong != NONE) {
            return -1 - wrong;
        }
        now.saveTo(past.slot(), true);
        int movesAhead = now.movesOfAll();
        int done = 0;
        while (done < works.size && works.doOne(done, now)) {
            done++;
        }
        if (done > 0) {
            past.commit();
        }
        told.putTwo(done < works.size ? 1 : 0, now.movesOfAll() - movesAhead);
        return done;
    }

    public int pay(int family, int lord, int n) {
        if (!now.isFamily(family) || !isLord(lord) || n < 1 || n > 999) {
            return NONE;
        }
        int owed = now.owedTo(family, lord);
        if (owed < n) {
            return -2;
        }
        now.saveTo(past.slot(), false);
        past.commit();
        now.setOwed(family, lord, owed - n);
        return owed - n;
    }

    public int owes(int family, int lord) {
        return now.isFamily(family) && isLord(lord) ? now.owedTo(family, lord) : NONE;
    }

    public int lord(int lord) {
        if (!isLord(lord)) {
            return NONE;
        }
        told.putTwo(now.nestsUnder(lord), now.livingUnder(lord));
        return now.owedByAll(lord);
    }

    public int undo() {
        if (past.size == 0) {
            return NONE;
        }
        now.loadFrom(past.takeLatest());
        return past.size;
    }

    // ---- days to come: they are tried on a copy

    public int later(int bird, int n) {
        if (!now.isBird(bird) || n < 0 || n > MOST_DAYS) {
            return -2;
        }
        trial.copyFrom(now);
        trial.passDays(n);
        told.putAll(trial.nest, trial.birds);
        return trial.nest[bird];
    }

    public int calm() {
        trial.copyFrom(now);
        for (int d = 0; d <= MOST_DAYS; d++) {
            trial.passDays(1);
            if (trial.changedNests() == 0) {
                told.putAll(trial.nest, trial.birds);
                return d;
            }
        }
        return -2;
    }

    public int moves(int family, int n) {
        if (!now.isFamily(family) || n < 0 || n > MOST_DAYS) {
            return NONE;
        }
        trial.copyFrom(now);
        int housed = housedDays(family, n);
        told.putTwo(n - housed, housed * trial.rent[family]);
        return trial.moved[family] - now.moved[family];
    }

    public int income(int lord, int n) {
        if (!isLord(lord) || n < 0 || n > MOST_DAYS) {
            return NONE;
        }
        trial.copyFrom(now);
        trial.startDues();
        trial.passDays(n);
        told.putAll(trial.due, LORDS);
        return trial.due[lord];
    }

    public int homeless(int bird) {
        if (!now.isBird(bird)) {
            return NONE;
        }
        if (now.nest[bird] == NONE) {
            return -3;
        }
        trial.copyFrom(now);
        for (int d = 1; d <= MOST_DAYS; d++) {
            trial.passDays(1);
            if (trial.nest[bird] == NONE) {
                return d;
            }
        }
        return -2;
    }

    public int bears(int n) {
        if (n < 1 || n > MOST_DAYS) {
            return NONE;
        }
        for (int cold = 9; cold >= 0; cold--) {
            trial.copyFrom(now);
            steadyFrost[0] = cold;
            trial.frost = steadyFrost;
            trial.frosts = 1;
            trial.passDays(n);
            if (trial.nowhere() == 0) {
                return cold;
            }
        }
        return -2;
    }

    // ---- rest

    public int rests() {
        int restless = now.restlessBirds();
        told.clear();
        told.add(restless);
        return restless == 0 ? 1 : 0;
    }

    public int ways() {
        if (waysAreTooMany()) {
            return -3;
        }
        openWays();
        told.clear();
        int found = 0;
        for (int i = 0; i < MOST_WAYS; i++) {
            if (trial.isAtRest()) {
                if (found == 0) {
                    told.putAll(trial.nest, trial.birds);
                }
                found++;
            }
            if (!trial.turnToNextNests()) {
                break;
            }
        }
        return found;
    }

    public int kindest() {
        if (waysAreTooMany()) {
            return -3;
        }
        openWays();
        int most = -2;
        for (int i = 0; i < MOST_WAYS; i++) {
            if (trial.nestedFamilies() > most && trial.isAtRest()) {
                most = trial.nestedFamilies();
                told.putAll(trial.nest, trial.birds);
            }
            if (!trial.turnToNextNests()) {
                break;
            }
        }
        return most;
    }

    // ---- lords

    public int wheel(int lord, int n) {
        if (!isLord(lord) || n < 0 || n > MOST_DAYS) {
            return NONE;
        }
        int roof = bestWheel(now, lord, n);
        if (roof == NONE) {
            return -2;
        }
        told.putTwo(livingWithWheel(now, roof, lord, n), livingWithWheel(now, NONE, lord, n));
        return roof;
    }

    public int courts(int n, int m) {
        if (n < 1 || n > COURT_DAYS || m < 0 || m > COURT_ROUNDS) {
            return NONE;
        }
        draft.copyFrom(now);
        int rounds = 0;
        boolean quiet = false;
        while (rounds < m && !quiet) {
            rounds++;
            quiet = true;
            for (int l = 0; l < LORDS; l++) {
                int roof = bestWheel(draft, l, n);
                if (roof != NONE && draft.trait(WHEEL, roof) == 0 && gainOf(draft, roof, l, n) > 0) {
                    draft.setTrait(WHEEL, roof, 1);
                    quiet = false;
                }
            }
        }
        told.putTwo(quiet ? 1 : 0, draft.wheelBits());
        return rounds;
    }

    public int win(int bird, int roof, int n) {
        if (!now.isBird(bird) || !now.isRoof(roof) || n < 1 || n > MOST_DAYS) {
            return NONE;
        }
        for (int view = 0; view <= 9; view++) {
            trial.copyFrom(now);
            trial.setTrait(VIEW, roof, view);
            trial.passDays(n);
            if (trial.nest[bird] == roof) {
                return view;
            }
        }
        return -2;
    }

    public int drive(int bird, int n) {
        if (!now.isBird(bird) || n < 1 || n > MOST_DAYS) {
            return NONE;
        }
        int roof = now.nest[bird];
        if (roof == NONE) {
            return -3;
        }
        for (int smoke = 0; smoke <= 9; smoke++) {
            trial.copyFrom(now);
            trial.setTrait(SMOKE, roof, smoke);
            trial.passDays(n);
            if (trial.nest[bird] != roof) {
                told.clear();
                told.add(trial.nest[bird]);
                return smoke;
            }
        }
        return -2;
    }

    public int choose(int family, int n) {
        if (!now.isFamily(family) || n < 1 || n > MOST_DAYS) {
            return NONE;
        }
        int best = now.keeper[family];
        int most = housedDaysUnder(best, family, n);
        for (int b = 0; b < now.birds; b++) {
            int housed = housedDaysUnder(b, family, n);
            if (housed > most) {
                most = housed;
                best = b;
            }
        }
        told.putTwo(most, most * now.rent[family]);
        return best;
    }

    // ---- nest by nest

    public int aim() {
        int answer = steps.readGoal(text, now);
        text.empty();
        return answer;
    }

    public int fewest() {
        return steps.isGoalFor(now) ? steps.takeFewest(now, told) : -4;
    }

    public int gently() {
        if (!steps.isGoalFor(now)) {
            return -4;
        }
        if (search == null) {
            // Made by the first call that needs it, for it is larger than all the rest.
            search = new Search();
        }
        return search.run(now, steps.goal, told);
    }

    // ---- rings on legs

    public int seen(int bird, int roof, int n) {
        if (!now.isBird(bird) || (roof != NONE && !now.isRoof(roof)) || n < 1 || n > MOST_DAYS) {
            return NONE;
        }
        return sightings.add(bird, roof, n) ? sightings.size : NONE;
    }

    public int forget() {
        int had = sightings.size;
        sightings.size = 0;
        return had;
    }

    public int strengths(int bird) {
        if (!now.isBird(bird)) {
            return NONE;
        }
        int bits = 0;
        for (int strength = 1; strength <= 9; strength++) {
            trial.copyFrom(now);
            trial.setStrength(bird, strength);
            if (sightings.holdIn(trial)) {
                bits |= 1 << strength;
            }
        }
        return bits;
    }

    public int latest(int bird) {
        if (!now.isBird(bird)) {
            return NONE;
        }
        int tried = NONE;
        for (int arrival = 99; arrival >= 0; arrival--) {
            // No ARRIVAL behind the last DAY that counts, or ahead of this one, differs from its neighbours.
            int felt = Math.max(now.day, Math.min(arrival, now.day + sightings.longest()));
            if (felt != tried) {
                tried = felt;
                trial.copyFrom(now);
                trial.arrival[bird] = felt;
                if (sightings.holdIn(trial)) {
                    return arrival;
                }
            }
        }
        return -2;
    }

    public int absent() {
        int bits = 0;
        for (int b = 0; b < now.birds; b++) {
            trial.copyFrom(now);
            trial.sendAway(b);
            if (sightings.holdIn(trial)) {
                bits |= 1 << b;
            }
        }
        trial.copyFrom(now);
        told.clear();
        told.add(sightings.holdIn(trial) ? 1 : 0);
        return bits;
    }

    // ---- chances

    public int chance(int roof, int n, int t) {
        if (!now.isRoof(roof) || n < 0 || n > CHANCE_DAYS || t < 0 || t > TENTHS) {
            return NONE;
        }
        int upper = 0;
        for (int away = 0; away < 1 << now.birds; away++) {
            int weight = weightOf(away, t);
            if (weight > 0) {
                passDaysWithout(away, n);
                upper += trial.sitter[roof] == NONE ? 0 : weight;
            }
        }
        told.putFraction(upper, power(TENTHS, now.birds));
        return 0;
    }

    public int safest(int n, int t) {
        if (n < 0 || n > CHANCE_DAYS || t < 0 || t > TENTHS) {
            return NONE;
        }
        if (now.families == 0) {
            return -2;
        }
        weighNests(n, t);
        int best = 0;
        for (int f = 1; f < now.families; f++) {
            if (odds[now.keeper[f]] > odds[now.keeper[best]]) {
                best = f;
            }
        }
        told.putFraction(odds[now.keeper[best]], power(TENTHS, now.birds));
        return best;
    }

    // ---- kept

    public boolean keep(int i) {
        if (i < 0 || i >= KEPT) {
            return false;
        }
        now.saveTo(stored[i], false);
        storedFor[i] = now.sizeMark();
        return true;
    }

    public boolean again(int i) {
        if (i < 0 || i >= KEPT || storedFor[i] != now.sizeMark()) {
            return false;
        }
        now.loadFrom(stored[i]);
        past.clear();
        return true;
    }

    public int count(int what) {
        switch (what) {
            case 0:
                return now.roofs;
            case 1:
                return now.birds;
            case 2:
                return now.families;
            case 3:
                return now.day;
            case 4:
                return now.nestedBits();
            case 5:
                return now.housedBits();
            case 6:
                return now.movesOfAll();
            case 7:
                return now.frogsOfAll();
            case 8:
                return past.size;
            case 9:
                return sightings.size;
            case 10:
                return told.size;
            case 11:
                return text.length;
            default:
                return NONE;
        }
    }

    public int row(int i) throws NoSuchElementException {
        if (i < 0 || i >= told.size) {
            throw new NoSuchElementException("the row has no such number");
        }
        return told.numbers[i];
    }

    // ---- what several calls need

    private static boolean isLord(int lord) {
        return lord >= 0 && lord < LORDS;
    }

    private static int mostOfTrait(int what) {
        if (what == WHEEL) {
            return 1;
        }
        return what == LORD ? LORDS - 1 : 9;
    }

    private static int sheetEntry(int kind, int v) {
        int entry = v;
        if (kind == 0) {
            entry = (byte) v;
        } else if (kind == 1) {
            entry = (short) v;
        }
        return Math.max(0, Math.min(9, entry));
    }

    private static int power(int base, int times) {
        int product = 1;
        for (int i = 0; i < times; i++) {
            product *= base;
        }
        return product;
    }

    /** Tells for each ROOF which BIRD has its NEST there. */
    private static void seatAll(int[] nest, int birds, int[] sitter) {
        Arrays.fill(sitter, NONE);
        for (int b = 0; b < birds; b++) {
            if (nest[b] != NONE) {
                sitter[nest[b]] = b;
            }
        }
    }

    /** On how many of the next DAYS of the trial a FAMILY lives somewhere. */
    private int housedDays(int family, int n) {
        int housed = 0;
        for (int d = 0; d < n; d++) {
            trial.passDays(1);
            if (trial.home[family] != NONE) {
                housed++;
            }
        }
        return housed;
    }

    private int housedDaysUnder(int bird, int family, int n) {
        trial.copyFrom(now);
        trial.setKeeper(family, bird);
        return housedDays(family, n);
    }

    private boolean waysAreTooMany() {
        return power(now.roofs + 1, now.birds) > MOST_WAYS;
    }

    /** The trial stands at the least row of NESTS: none at all. */
    private void openWays() {
        trial.copyFrom(now);
        for (int b = 0; b < trial.birds; b++) {
            trial.leave(b);
        }
        trial.worths.refresh(trial);
    }

    private int livingWithWheel(Town from, int roof, int lord, int n) {
        trial.copyFrom(from);
        if (roof != NONE) {
            trial.setTrait(WHEEL, roof, 1);
        }
        trial.passDays(n);
        return trial.livingUnder(lord);
    }

    private int bestWheel(Town from, int lord, int n) {
        int best = NONE;
        int most = NONE;
        for (int r = 0; r < from.roofs; r++) {
            if (from.trait(LORD, r) == lord) {
                int living = livingWithWheel(from, r, lord, n);
                if (living > most) {
                    most = living;
                    best = r;
                }
            }
        }
        return best;
    }

    /** How many FAMILIES more a LORD has by a WHEEL there. */
    private int gainOf(Town from, int roof, int lord, int n) {
        return livingWithWheel(from, roof, lord, n) - livingWithWheel(from, NONE, lord, n);
    }

    /** How likely just these BIRDS (bits) stay away, as a part of 10 to the power of BIRDS. */
    private int weightOf(int away, int t) {
        int gone = Integer.bitCount(away);
        return power(t, gone) * power(TENTHS - t, now.birds - gone);
    }

    private void passDaysWithout(int away, int n) {
        trial.copyFrom(now);
        for (int b = 0; b < trial.birds; b++) {
            if ((away >> b & 1) != 0) {
                trial.sendAway(b);
            }
        }
        trial.passDays(n);
    }

    /** The odds of each BIRD to have a NEST n DAYS on. */
    private void weighNests(int n, int t) {
        Arrays.fill(odds, 0);
        for (int away = 0; away < 1 << now.birds; away++) {
            int weight = weightOf(away, t);
            if (weight > 0) {
                passDaysWithout(away, n);
                for (int b = 0; b < now.birds; b++) {
                    odds[b] += trial.nest[b] == NONE ? 0 : weight;
                }
            }
        }
    }

    /** THE TEXT, and how far it has been read. */
    private static final class Signs {
        final char[] signs = new char[MOST_SIGNS];
        int length = 0;
        int at = 0;
        int bound = 0;

        boolean addFour(int v) {
            if (length + 4 > MOST_SIGNS) {
                return false;
            }
            for (int shift = 24; shift >= 0; shift -= 8) {
                signs[length] = (char) (v >>> shift & 255);
                length++;
            }
            return true;
        }

        boolean cutTo(int n) {
            if (n < 0 || n > length) {
                return false;
            }
            length = n;
            return true;
        }

        void empty() {
            length = 0;
        }

        /** Reading starts; what stands behind the most signs allowed is not read, so that it counts as wrong. */
        void open(int most) {
            at = 0;
            bound = Math.min(length, most);
        }

        boolean isReadWhole() {
            return at == length;
        }

        boolean take(char c) {
            if (at >= bound || signs[at] != c) {
                return false;
            }
            at++;
            return true;
        }

        /** The digit that stands here, if it is one of these; else NONE, and nothing is taken. */
        int takeDigit(int least, int most) {
            if (at >= bound) {
                return NONE;
            }
            int digit = signs[at] - '0';
            if (digit < least || digit > most) {
                return NONE;
            }
            at++;
            return digit;
        }

        /** The answer for a text that tells something wrong where reading stopped. */
        int wrongHere() {
            return -1 - at;
        }
    }

    /** The ROW. */
    private static final class Row {
        static final int MOST = 10;
        final int[] numbers = new int[MOST];
        int size = 0;

        void clear() {
            size = 0;
        }

        void add(int number) {
            if (size < MOST) {
                numbers[size] = number;
                size++;
            }
        }

        void putTwo(int first, int second) {
            clear();
            add(first);
            add(second);
        }

        void putAll(int[] from, int n) {
            clear();
            for (int i = 0; i < n && i < from.length; i++) {
                add(from[i]);
            }
        }

        void putFraction(int upper, int lower) {
            int divisor = lower;
            int rest = upper;
            // Each two turns halve the rest at least, so that 64 are enough for any two ints.
            for (int i = 0; i < 64 && rest != 0; i++) {
                int left = divisor % rest;
                divisor = rest;
                rest = left;
            }
            if (divisor != 0) {
                putTwo(upper / divisor, lower / divisor);
            }
        }
    }

    /** THE RULE as it is worked out: each step behind those whose values it joins. */
    private static final class Rule {
        static final String LETTERS = "hsvwrikodf";
        static final int IS_NEST = 7;
        static final int IS_DAY = 8;
        static final int THINGS = 1000;
        static final int JOINS = 2000;
        static final int OPEN = JOINS + '(';
        static final int NEGATE = JOINS + '~';
        static final int MOST_DEPTH = 4;
        static final int MOST_DIGITS = 3;
        static final int MOST_WORTH = 999;

        final int[] steps = new int[RULE_SIGNS];
        final int[] waiting = new int[RULE_SIGNS];
        final int[] values = new int[RULE_SIGNS];
        int size = 0;
        int waits = 0;
        int depth = 0;
        int comparedBits = 0;
        int digits = 0;
        boolean wantsThing = true;
        boolean tellsDay = false;
        boolean tellsNest = false;

        /** The sign that can't stand where it does, or NONE. */
        int read(Signs text) {
            reset();
            text.open(RULE_SIGNS);
            if (text.length == 0) {
                return NONE;
            }
            while (text.at < text.bound) {
                char c = text.signs[text.at];
                if (!(wantsThing ? takeThing(c) : takeBehind(c))) {
                    return text.at;
                }
                text.at++;
            }
            if (wantsThing || depth > 0 || !text.isReadWhole()) {
                return text.at;
            }
            settle(0);
            return NONE;
        }

        void reset() {
            size = 0;
            waits = 0;
            depth = 0;
            comparedBits = 0;
            digits = 0;
            wantsThing = true;
            tellsDay = false;
            tellsNest = false;
        }

        boolean takeThing(char c) {
            if (c == '-') {
                hold(NEGATE);
                return true;
            }
            if (c == '(') {
                return takeOpening();
            }
            if (c >= '0' && c <= '9') {
                put(c - '0');
                digits = 1;
                wantsThing = false;
                return true;
            }
            int letter = LETTERS.indexOf(c);
            if (letter < 0) {
                return false;
            }
            tellsNest = tellsNest || letter == IS_NEST;
            tellsDay = tellsDay || letter == IS_DAY;
            put(THINGS + letter);
            digits = 0;
            wantsThing = false;
            return true;
        }

        boolean takeOpening() {
            if (depth >= MOST_DEPTH) {
                return false;
            }
            depth++;
            comparedBits &= ~(1 << depth);
            hold(OPEN);
            return true;
        }

        boolean takeBehind(char c) {
            if (c >= '0' && c <= '9') {
                return takeDigitMore(c - '0');
            }
            if (c == ')') {
                return takeClosing();
            }
            int bond = bondOf(JOINS + c);
            if (bond < 1 || bond > 3) {
                return false;
            }
            if (bond == 1) {
                if ((comparedBits >> depth & 1) != 0) {
                    return false;
                }
                comparedBits |= 1 << depth;
            }
            settle(bond);
            hold(JOINS + c);
            wantsThing = true;
            return true;
        }

        boolean takeDigitMore(int digit) {
            if (digits < 1 || digits >= MOST_DIGITS || size < 1) {
                return false;
            }
            steps[size - 1] = steps[size - 1] * 10 + digit;
            digits++;
            return true;
        }

        boolean takeClosing() {
            if (depth < 1) {
                return false;
            }
            settle(1);
            if (waits > 0) {
                waits--;
            }
            depth--;
            digits = 0;
            return true;
        }

        static int bondOf(int join) {
            switch (join) {
                case JOINS + '<':
                case JOINS + '>':
                case JOINS + '=':
                    return 1;
                case JOINS + '+':
                case JOINS + '-':
                    return 2;
                case JOINS + '*':
                case JOINS + '/':
                    return 3;
                case NEGATE:
                    return 4;
                default:
                    return 0;
            }
        }

        /** What waits and binds no less than that comes behind its things now. */
        void settle(int bond) {
            while (waits > 0 && bondOf(waiting[waits - 1]) >= bond) {
                waits--;
                put(waiting[waits]);
            }
        }

        void put(int step) {
            if (size < RULE_SIGNS) {
                steps[size] = step;
                size++;
            }
        }

        void hold(int join) {
            if (waits < RULE_SIGNS) {
                waiting[waits] = join;
                waits++;
            }
        }

        /** WORTH by the things that the letters stand for, in their order. */
        int valueOf(int[] things) {
            if (size == 0) {
                return things[HEIGHT] + things[VIEW] - things[SMOKE];
            }
            int top = 0;
            for (int i = 0; i < size; i++) {
                int step = steps[i];
                if (step < THINGS) {
                    values[top] = step;
                    top++;
                } else if (step < JOINS) {
                    values[top] = things[step - THINGS];
                    top++;
                } else if (step == NEGATE && top >= 1) {
                    values[top - 1] = -values[top - 1];
                } else if (top >= 2) {
                    top--;
                    values[top - 1] = joined(step, values[top - 1], values[top]);
                }
            }
            return Math.max(-MOST_WORTH, Math.min(MOST_WORTH, values[0]));
        }

        static int joined(int step, int a, int b) {
            switch (step) {
                case JOINS + '<':
                    return a < b ? 1 : 0;
                case JOINS + '>':
                    return a > b ? 1 : 0;
                case JOINS + '=':
                    return a == b ? 1 : 0;
                case JOINS + '+':
                    return a + b;
                case JOINS + '-':
                    return a - b;
                case JOINS + '*':
                    return a * b;
                default:
                    return b == 0 ? 0 : a / b;
            }
        }
    }

    /** WORTH of each ROOF for each BIRD, worked out once for as long as nothing changes it. */
    private static final class Worths {
        static final int IS_ROOF = 4;
        static final int IS_BIRD = 5;
        static final int IS_STRENGTH = 6;
        static final int IS_FAMILIES = 9;

        Rule law = null;
        final int[] ofOthers = new int[MOST_BIRDS * MOST_ROOFS];
        final int[] ofNests = new int[MOST_BIRDS * MOST_ROOFS];
        final int[] things = new int[Rule.LETTERS.length()];
        boolean fresh = false;
        int madeOn = 0;

        void spoil() {
            fresh = false;
        }

        void copyFrom(Worths other) {
            law = other.law;
            fresh = other.fresh;
            madeOn = other.madeOn;
            if (fresh) {
                System.arraycopy(other.ofOthers, 0, ofOthers, 0, ofOthers.length);
                System.arraycopy(other.ofNests, 0, ofNests, 0, ofNests.length);
            }
        }

        void refresh(Town town) {
            if (law == null || (fresh && (madeOn == town.day || !law.tellsDay))) {
                return;
            }
            things[Rule.IS_DAY] = town.day;
            for (int b = 0; b < town.birds; b++) {
                things[IS_BIRD] = b;
                things[IS_STRENGTH] = town.strength[b];
                things[IS_FAMILIES] = town.familiesOf(b);
                for (int r = 0; r < town.roofs; r++) {
                    for (int what = HEIGHT; what <= WHEEL; what++) {
                        things[what] = town.trait(what, r);
                    }
                    things[IS_ROOF] = r;
                    things[Rule.IS_NEST] = 0;
                    ofOthers[b * MOST_ROOFS + r] = law.valueOf(things);
                    things[Rule.IS_NEST] = 1;
                    ofNests[b * MOST_ROOFS + r] =
                            law.tellsNest ? law.valueOf(things) : ofOthers[b * MOST_ROOFS + r];
                }
            }
            fresh = true;
            madeOn = town.day;
        }

        /** WORTH of a ROOF where the BIRD has not its NEST. */
        int ofOther(int roof, int bird) {
            return ofOthers[bird * MOST_ROOFS + roof];
        }

        /** WORTH of a ROOF where the BIRD has its NEST. */
        int ofNest(int roof, int bird) {
            return ofNests[bird * MOST_ROOFS + roof];
        }
    }

    /** ROOFS, BIRDS and FAMILIES on a DAY. */
    private static final class Town {
        static final int ROOF_TRAITS = 5;
        static final int MOST_OWED = 9999;
        /** How long a saved state is: DAY, NESTS, homes, MOVES, FROGS, then what A SPRING changes, then a mark of that. */
        static final int STATE = 1 + MOST_BIRDS + 2 * MOST_FAMILIES + MOST_FAMILIES * LORDS
                + 2 * MOST_ROOFS + MOST_FAMILIES + 1;

        int day = 0;
        int roofs = 0;
        int birds = 0;
        int families = 0;
        final int[] house = new int[ROOF_TRAITS * MOST_ROOFS];
        final int[] strength = new int[MOST_BIRDS];
        final int[] arrival = new int[MOST_BIRDS];
        final int[] nest = new int[MOST_BIRDS];
        final int[] sitter = new int[MOST_ROOFS];
        final int[] ahead = new int[MOST_BIRDS];
        final int[] keeper = new int[MOST_FAMILIES];
        final int[] rent = new int[MOST_FAMILIES];
        final int[] home = new int[MOST_FAMILIES];
        final int[] moved = new int[MOST_FAMILIES];
        final int[] owed = new int[MOST_FAMILIES * LORDS];
        final int[] due = new int[LORDS];
        int[] frost = null;
        int frosts = 0;
        final Worths worths = new Worths();

        void copyFrom(Town other) {
            day = other.day;
            roofs = other.roofs;
            birds = other.birds;
            families = other.families;
            System.arraycopy(other.house, 0, house, 0, house.length);
            System.arraycopy(other.strength, 0, strength, 0, strength.length);
            System.arraycopy(other.arrival, 0, arrival, 0, arrival.length);
            System.arraycopy(other.nest, 0, nest, 0, nest.length);
            System.arraycopy(other.sitter, 0, sitter, 0, sitter.length);
            System.arraycopy(other.keeper, 0, keeper, 0, keeper.length);
            System.arraycopy(other.rent, 0, rent, 0, rent.length);
            System.arraycopy(other.home, 0, home, 0, home.length);
            System.arraycopy(other.moved, 0, moved, 0, moved.length);
            System.arraycopy(other.owed, 0, owed, 0, owed.length);
            frost = other.frost;
            frosts = other.frosts;
            worths.copyFrom(other.worths);
        }

        boolean isRoof(int roof) {
            return roof >= 0 && roof < roofs;
        }

        boolean isBird(int bird) {
            return bird >= 0 && bird < birds;
        }

        boolean isFamily(int family) {
            return family >= 0 && family < families;
        }

        /** Differs from 0 and from that of each size the town had earlier, for nothing ever goes. */
        int sizeMark() {
            return 1 + roofs + 10 * birds + 100 * families;
        }

        void addRoof(int height, int smoke, int view, int wheel, int lord) {
            int roof = roofs;
            roofs++;
            setTrait(HEIGHT, roof, height);
            setTrait(SMOKE, roof, smoke);
            setTrait(VIEW, roof, view);
            setTrait(WHEEL, roof, wheel);
            setTrait(LORD, roof, lord);
            sitter[roof] = NONE;
        }

        void addBird(int itsStrength, int itsArrival) {
            int bird = birds;
            birds++;
            setStrength(bird, itsStrength);
            arrival[bird] = itsArrival;
            nest[bird] = NONE;
        }

        void addFamily(int bird, int rentDue) {
            int family = families;
            families++;
            setKeeper(family, bird);
            rent[family] = rentDue;
            home[family] = NONE;
            moved[family] = 0;
            for (int l = 0; l < LORDS; l++) {
                setOwed(family, l, 0);
            }
        }

        int trait(int what, int roof) {
            return house[what * MOST_ROOFS + roof];
        }

        void setTrait(int what, int roof, int v) {
            house[what * MOST_ROOFS + roof] = v;
            worths.spoil();
        }

        void setStrength(int bird, int v) {
            strength[bird] = v;
            worths.spoil();
        }

        void setKeeper(int family, int bird) {
            keeper[family] = bird;
            worths.spoil();
        }

        int owedTo(int family, int lord) {
            return owed[family * LORDS + lord];
        }

        void setOwed(int family, int lord, int frogs) {
            owed[family * LORDS + lord] = frogs;
        }

        // -- what there is

        int familiesOf(int bird) {
            int n = 0;
            for (int f = 0; f < families; f++) {
                if (keeper[f] == bird) {
                    n++;
                }
            }
            return n;
        }

        int livingOn(int roof) {
            int n = 0;
            for (int f = 0; f < families; f++) {
                if (home[f] == roof) {
                    n++;
                }
            }
            return n;
        }

        int livingUnder(int lord) {
            int n = 0;
            for (int r = 0; r < roofs; r++) {
                if (trait(LORD, r) == lord) {
                    n += livingOn(r);
                }
            }
            return n;
        }

        int nowhere() {
            return livingOn(NONE);
        }

        int nestsUnder(int lord) {
            int n = 0;
            for (int r = 0; r < roofs; r++) {
                if (trait(LORD, r) == lord && sitter[r] != NONE) {
                    n++;
                }
            }
            return n;
        }

        int owedBy(int family) {
            int sum = 0;
            for (int l = 0; l < LORDS; l++) {
                sum += owedTo(family, l);
            }
            return sum;
        }

        int owedByAll(int lord) {
            int sum = 0;
            for (int f = 0; f < families; f++) {
                sum += owedTo(f, lord);
            }
            return sum;
        }

        int frogsOfAll() {
            int sum = 0;
            for (int f = 0; f < families; f++) {
                sum += owedBy(f);
            }
            return sum;
        }

        int movesOfAll() {
            int sum = 0;
            for (int f = 0; f < families; f++) {
                sum += moved[f];
            }
            return sum;
        }

        int nestedBits() {
            int bits = 0;
            for (int b = 0; b < birds; b++) {
                bits |= nest[b] == NONE ? 0 : 1 << b;
            }
            return bits;
        }

        int housedBits() {
            int bits = 0;
            for (int f = 0; f < families; f++) {
                bits |= home[f] == NONE ? 0 : 1 << f;
            }
            return bits;
        }

        int wheelBits() {
            int bits = 0;
            for (int r = 0; r < roofs; r++) {
                bits |= trait(WHEEL, r) << r;
            }
            return bits;
        }

        int nestedFamilies() {
            int n = 0;
            for (int f = 0; f < families; f++) {
                if (nest[keeper[f]] != NONE) {
                    n++;
                }
            }
            return n;
        }

        // -- WORTH

        int worthNow(int roof, int bird) {
            worths.refresh(this);
            return nest[bird] == roof ? worths.ofNest(roof, bird) : worths.ofOther(roof, bird);
        }

        int dearestRoof(int bird) {
            int best = NONE;
            for (int r = 0; r < roofs; r++) {
                if (best == NONE || worthNow(r, bird) > worthNow(best, bird)) {
                    best = r;
                }
            }
            return best;
        }

        boolean isOpenTo(int roof, int bird) {
            int other = sitter[roof];
            return other == NONE || strength[other] < strength[bird];
        }

        /** Where a BIRD would go by (2), or NONE; WORTHS must have been refreshed. */
        int betterRoof(int bird) {
            int best = NONE;
            int most = nest[bird] == NONE ? 0 : worths.ofNest(nest[bird], bird);
            for (int r = 0; r < roofs; r++) {
                if (isOpenTo(r, bird) && worths.ofOther(r, bird) > most) {
                    most = worths.ofOther(r, bird);
                    best = r;
                }
            }
            return best;
        }

        // -- NESTS

        void leave(int bird) {
            if (nest[bird] != NONE) {
                sitter[nest[bird]] = NONE;
                nest[bird] = NONE;
            }
        }

        void goTo(int bird, int roof) {
            leave(bird);
            if (sitter[roof] != NONE) {
                leave(sitter[roof]);
            }
            nest[bird] = roof;
            sitter[roof] = bird;
        }

        void sendAway(int bird) {
            leave(bird);
            arrival[bird] = NEVER;
        }

        int restlessBirds() {
            worths.refresh(this);
            int bits = 0;
            for (int b = 0; b < birds; b++) {
                bits |= betterRoof(b) == NONE ? 0 : 1 << b;
            }
            return bits;
        }

        /** As restlessBirds(), but it ends at the first, since it is asked for thousands of ways. */
        boolean isAtRest() {
            for (int b = 0; b < birds; b++) {
                if (betterRoof(b) != NONE) {
                    return false;
                }
            }
            return true;
        }

        /** NESTS become the row that follows, as rows are compared; false behind the last. */
        boolean turnToNextNests() {
            for (int b = birds - 1; b >= 0; b--) {
                int from = nest[b] + 1;
                leave(b);
                for (int r = from; r < roofs; r++) {
                    if (sitter[r] == NONE) {
                        goTo(b, r);
                        return true;
                    }
                }
            }
            return false;
        }

        // -- DAYS

        void passDays(int n) {
            for (int i = 0; i < n; i++) {
                worths.refresh(this);
                System.arraycopy(nest, 0, ahead, 0, birds);
                int cold = frosts > 0 && frost != null ? frost[day % frosts] : 0;
                freeze(cold);
                for (int b = 0; b < birds; b++) {
                    if (arrival[b] <= day && strength[b] > cold) {
                        lookForNest(b);
                    }
                }
                for (int f = 0; f < families; f++) {
                    followBird(f);
                }
                day++;
            }
        }

        void freeze(int cold) {
            for (int b = 0; b < birds; b++) {
                if (arrival[b] <= day && strength[b] <= cold) {
                    leave(b);
                }
            }
        }

        void lookForNest(int bird) {
            int roof = betterRoof(bird);
            if (roof != NONE) {
                goTo(bird, roof);
            }
        }

        void followBird(int family) {
            int roof = nest[keeper[family]];
            if (roof != NONE) {
                if (roof != home[family]) {
                    moved[family]++;
                }
                int lord = trait(LORD, roof);
                due[lord] += rent[family];
                setOwed(family, lord, Math.min(MOST_OWED, owedTo(family, lord) + rent[family]));
            }
            home[family] = roof;
        }

        /** How many BIRDS have another NEST than ahead of the latest DAY. */
        int changedNests() {
            int n = 0;
            for (int b = 0; b < birds; b++) {
                if (nest[b] != ahead[b]) {
                    n++;
                }
            }
            return n;
        }

        void startDues() {
            Arrays.fill(due, 0);
        }

        int duesOfAll() {
            int sum = 0;
            for (int l = 0; l < LORDS; l++) {
                sum += due[l];
            }
            return sum;
        }

        // -- states

        void saveTo(int[] state, boolean ofSpring) {
            state[0] = day;
            int at = 1;
            at = pack(nest, 0, state, at, MOST_BIRDS);
            at = pack(home, 0, state, at, MOST_FAMILIES);
            at = pack(moved, 0, state, at, MOST_FAMILIES);
            at = pack(owed, 0, state, at, MOST_FAMILIES * LORDS);
            at = pack(house, WHEEL * MOST_ROOFS, state, at, MOST_ROOFS);
            at = pack(house, SMOKE * MOST_ROOFS, state, at, MOST_ROOFS);
            at = pack(keeper, 0, state, at, MOST_FAMILIES);
            state[at] = ofSpring ? 1 : 0;
        }

        void loadFrom(int[] state) {
            day = state[0];
            int at = 1;
            at = unpack(state, at, nest, 0, MOST_BIRDS);
            at = unpack(state, at, home, 0, MOST_FAMILIES);
            at = unpack(state, at, moved, 0, MOST_FAMILIES);
            at = unpack(state, at, owed, 0, MOST_FAMILIES * LORDS);
            if (state[STATE - 1] == 1) {
                at = unpack(state, at, house, WHEEL * MOST_ROOFS, MOST_ROOFS);
                at = unpack(state, at, house, SMOKE * MOST_ROOFS, MOST_ROOFS);
                unpack(state, at, keeper, 0, MOST_FAMILIES);
                worths.spoil();
            }
            seatAll(nest, birds, sitter);
        }

        /** Where in a state the next part goes. */
        static int pack(int[] from, int start, int[] state, int at, int n) {
            System.arraycopy(from, start, state, at, n);
            return at + n;
        }

        /** Where in a state the next part comes from. */
        static int unpack(int[] state, int at, int[] to, int start, int n) {
            System.arraycopy(state, at, to, start, n);
            return at + n;
        }
    }

    /** What THE TOWN and FROST tell, read sign by sign. */
    private static final class Lines {
        /** How many LINES came, or the answer for the sign that can't stand there. */
        static int readTown(Signs text, Town to) {
            text.open(TOWN_SIGNS);
            if (text.length == 0) {
                return 0;
            }
            for (int lines = 1; lines <= TOWN_SIGNS && readLine(text, to); lines++) {
                if (!text.take(';')) {
                    return text.isReadWhole() ? lines : text.wrongHere();
                }
            }
            return text.wrongHere();
        }

        static boolean readLine(Signs text, Town to) {
            if (to.roofs < MOST_ROOFS && text.take('r')) {
                return readRoof(text, to);
            }
            if (to.birds < MOST_BIRDS && text.take('b')) {
                return readBird(text, to);
            }
            if (to.families < MOST_FAMILIES && text.take('f')) {
                return readFamily(text, to);
            }
            return false;
        }

        static boolean readRoof(Signs text, Town to) {
            int height = text.takeDigit(0, 9);
            int smoke = height == NONE ? NONE : text.takeDigit(0, 9);
            int view = smoke == NONE ? NONE : text.takeDigit(0, 9);
            if (view == NONE) {
                return false;
            }
            int wheel = text.take('w') ? 1 : 0;
            int lord = text.take('@') ? text.takeDigit(0, LORDS - 1) : NONE;
            if (lord == NONE) {
                return false;
            }
            to.addRoof(height, smoke, view, wheel, lord);
            return true;
        }

        static boolean readBird(Signs text, Town to) {
            int strength = text.takeDigit(1, 9);
            if (strength == NONE) {
                return false;
            }
            int arrival = 0;
            if (text.take('/')) {
                arrival = text.takeDigit(0, 9);
                if (arrival == NONE) {
                    return false;
                }
                int digit = text.takeDigit(0, 9);
                arrival = digit == NONE ? arrival : arrival * 10 + digit;
            }
            to.addBird(strength, arrival);
            return true;
        }

        static boolean readFamily(Signs text, Town to) {
            int bird = text.takeDigit(0, to.birds - 1);
            if (bird == NONE) {
                return false;
            }
            int rent = text.take('*') ? text.takeDigit(0, 9) : 1;
            if (rent == NONE) {
                return false;
            }
            to.addFamily(bird, rent);
            return true;
        }

        static int readFrost(Signs text, int[] to) {
            text.open(FROST_SIGNS);
            int digits = 0;
            while (text.at < text.bound && digits < to.length) {
                int digit = text.takeDigit(0, 9);
                if (digit == NONE) {
                    return text.wrongHere();
                }
                to[digits] = digit;
                digits++;
            }
            return text.isReadWhole() ? digits : text.wrongHere();
        }
    }

    /** The WORKS of A SPRING, read whole ahead of the first that is done. */
    private static final class Works {
        static final int MOST = SPRING_SIGNS / 2 + 1;
        final char[] kind = new char[MOST];
        final int[] first = new int[MOST];
        final int[] second = new int[MOST];
        int size = 0;

        /** The sign that can't stand where it does, or NONE. */
        int read(Signs text) {
            size = 0;
            text.open(SPRING_SIGNS);
            if (text.length == 0) {
                return NONE;
            }
            while (size < MOST && readWork(text)) {
                size++;
                if (!text.take(';')) {
                    return text.isReadWhole() ? NONE : text.at;
                }
            }
            return text.at;
        }

        boolean readWork(Signs text) {
            if (text.at >= text.bound) {
                return false;
            }
            char c = text.signs[text.at];
            if (c != 'w' && c != 's' && c != 'x' && c != 'f' && c != 'd') {
                return false;
            }
            text.take(c);
            kind[size] = c;
            if (c == 'd') {
                int days = text.takeDigit(1, 9);
                first[size] = days == NONE ? 1 : days;
                return true;
            }
            first[size] = text.takeDigit(0, 9);
            if (first[size] == NONE) {
                return false;
            }
            if (c == 'w' || c == 'x') {
                return true;
            }
            if (c == 'f' && !text.take('>')) {
                return false;
            }
            second[size] = text.takeDigit(0, 9);
            return second[size] != NONE;
        }

        /** Whether the WORK could be done. */
        boolean doOne(int i, Town town) {
            switch (kind[i]) {
                case 'w':
                    return turnWheel(first[i], town);
                case 's':
                    return setSmoke(first[i], second[i], town);
                case 'x':
                    return driveOff(first[i], town);
                case 'f':
                    return changeKeeper(first[i], second[i], town);
                default:
                    town.passDays(first[i]);
                    return true;
            }
        }

        static boolean turnWheel(int roof, Town town) {
            if (!town.isRoof(roof)) {
                return false;
            }
            town.setTrait(WHEEL, roof, 1 - town.trait(WHEEL, roof));
            return true;
        }

        static boolean setSmoke(int roof, int smoke, Town town) {
            if (!town.isRoof(roof)) {
                return false;
            }
            town.setTrait(SMOKE, roof, smoke);
            return true;
        }

        static boolean driveOff(int bird, Town town) {
            if (!town.isBird(bird) || town.nest[bird] == NONE) {
                return false;
            }
            town.leave(bird);
            return true;
        }

        static boolean changeKeeper(int family, int bird, Town town) {
            if (!town.isFamily(family) || !town.isBird(bird)) {
                return false;
            }
            town.setKeeper(family, bird);
            return true;
        }
    }

    /** The states ahead of the latest calls that can be undone. */
    private static final class History {
        static final int MOST = 12;
        /** One more than are kept, so that a slot can be written and then not be needed. */
        static final int SLOTS = MOST + 1;
        final int[][] states = new int[SLOTS][Town.STATE];
        int oldest = 0;
        int size = 0;

        int[] slot() {
            return states[(oldest + size) % SLOTS];
        }

        /** What was written to slot() counts from now on. */
        void commit() {
            if (size < MOST) {
                size++;
            } else {
                oldest = (oldest + 1) % SLOTS;
            }
        }

        int[] takeLatest() {
            size = Math.max(0, size - 1);
            return slot();
        }

        void clear() {
            size = 0;
        }
    }

    /** What was seen by rings on legs. */
    private static final class Sightings {
        static final int MOST = 10;
        final int[] bird = new int[MOST];
        final int[] roof = new int[MOST];
        final int[] after = new int[MOST];
        int size = 0;

        boolean add(int seenBird, int seenRoof, int n) {
            if (size >= MOST) {
                return false;
            }
            bird[size] = seenBird;
            roof[size] = seenRoof;
            after[size] = n;
            size++;
            return true;
        }

        int longest() {
            int most = 0;
            for (int i = 0; i < size; i++) {
                most = Math.max(most, after[i]);
            }
            return most;
        }

        /** Whether all would be so in a town from now on; its DAYS go by. */
        boolean holdIn(Town town) {
            int days = longest();
            for (int d = 1; d <= days; d++) {
                town.passDays(1);
                for (int i = 0; i < size; i++) {
                    if (after[i] == d && town.nest[bird[i]] != roof[i]) {
                        return false;
                    }
                }
            }
            return true;
        }
    }

    /** THE AIM, and MOVES nest by nest towards it. */
    private static final class Steps {
        static final int OFF = 9;

        final int[] goal = new int[MOST_BIRDS];
        final int[] draft = new int[MOST_BIRDS];
        boolean isSet = false;
        int roofs = 0;
        int birds = 0;
        final int[] nest = new int[MOST_BIRDS];
        final int[] sitter = new int[MOST_ROOFS];

        int readGoal(Signs text, Town town) {
            if (text.length == 0 && town.birds > 0) {
                isSet = false;
                return 0;
            }
            text.open(MOST_SIGNS);
            int taken = 0;
            for (int b = 0; b < town.birds; b++) {
                int here = text.at;
                draft[b] = text.take('-') ? NONE : text.takeDigit(0, town.roofs - 1);
                if (text.at == here || (draft[b] != NONE && (taken >> draft[b] & 1) != 0)) {
                    return -1 - here;
                }
                taken |= draft[b] == NONE ? 0 : 1 << draft[b];
            }
            if (!text.isReadWhole()) {
                return text.wrongHere();
            }
            System.arraycopy(draft, 0, goal, 0, goal.length);
            isSet = true;
            roofs = town.roofs;
            birds = town.birds;
            return birds;
        }

        boolean isGoalFor(Town town) {
            return isSet && roofs == town.roofs && birds == town.birds;
        }

        // -- the fewest MOVES

        int takeFewest(Town town, Row row) {
            System.arraycopy(town.nest, 0, nest, 0, birds);
            seatAll(nest, birds, sitter);
            row.clear();
            int moves = distance();
            for (int left = moves; left > 0; left--) {
                row.add(takeLeastMove(left));
            }
            return moves;
        }

        /** The least MOVE that leaves one less to do is taken. */
        int takeLeastMove(int left) {
            for (int b = 0; b < birds; b++) {
                int from = nest[b];
                for (int r = 0; r < roofs; r++) {
                    if (sitter[r] == NONE) {
                        move(b, r);
                        if (distance() < left) {
                            return b * 10 + r;
                        }
                        move(b, from);
                    }
                }
                if (from != NONE) {
                    move(b, NONE);
                    if (distance() < left) {
                        return b * 10 + OFF;
                    }
                    move(b, from);
                }
            }
            return NONE;
        }

        void move(int bird, int roof) {
            if (nest[bird] != NONE) {
                sitter[nest[bird]] = NONE;
            }
            nest[bird] = roof;
            if (roof != NONE) {
                sitter[roof] = bird;
            }
        }

        /**
         * One MOVE for each BIRD that is not where it should be, and one more for each ring of BIRDS
         * each of which waits for the next one's ROOF: there the first to go can't go where it should.
         */
        int distance() {
            int moves = 0;
            for (int b = 0; b < birds; b++) {
                if (nest[b] != goal[b]) {
                    moves++;
                }
                if (isLeastOfRing(b)) {
                    moves++;
                }
            }
            return moves;
        }

        boolean isLeastOfRing(int bird) {
            int at = bird;
            for (int i = 0; i < birds; i++) {
                if (goal[at] == NONE || sitter[goal[at]] == NONE) {
                    return false;
                }
                at = sitter[goal[at]];
                if (at <= bird) {
                    return at == bird && i > 0;
                }
            }
            return false;
        }
    }

    /** NESTS found one by one by gentle MOVES. */
    private static final class Search {
        static final int MOST = 3000;
        /** Each BIRD's place in the number that stands for NESTS, ROOFS being told from 1 on and none as 0. */
        static final int[] PLACES = {1, 7, 49, 343, 2401, 16807};
        static final int DIGITS = MOST_ROOFS + 1;
        static final int CODES = 117649;
        static final int BITS = 32;

        final int[] found = new int[MOST];
        /** For each one found: 100 times the place of that from which it was, and the MOVE. */
        final int[] cameBy = new int[MOST];
        final int[] known = new int[CODES / BITS + 1];
        final boolean[] liked = new boolean[MOST_BIRDS * MOST_ROOFS];
        final int[] nest = new int[MOST_BIRDS];
        final int[] sitter = new int[MOST_ROOFS];
        int roofs = 0;
        int birds = 0;
        int size = 0;

        int run(Town town, int[] goal, Row row) {
            open(town);
            int target = codeOf(goal);
            if (found[0] == target) {
                row.clear();
                return 0;
            }
            for (int i = 0; i < size; i++) {
                int place = searchFrom(i, target);
                if (place == -3) {
                    return -3;
                }
                if (place > 0) {
                    return tellWay(place, row);
                }
            }
            return -2;
        }

        void open(Town town) {
            roofs = town.roofs;
            birds = town.birds;
            town.worths.refresh(town);
            for (int b = 0; b < birds; b++) {
                for (int r = 0; r < roofs; r++) {
                    // A ROOF that a BIRD goes to is never its NEST, even if it was at first.
                    liked[b * MOST_ROOFS + r] = town.worths.ofOther(r, b) > 0;
                }
            }
            Arrays.fill(known, 0);
            size = 0;
            add(codeOf(town.nest), 0);
        }

        int codeOf(int[] nests) {
            int code = 0;
            for (int b = 0; b < birds; b++) {
                code += (nests[b] + 1) * PLACES[b];
            }
            return code;
        }

        void setNests(int code) {
            for (int b = 0; b < birds; b++) {
                nest[b] = code / PLACES[b] % DIGITS - 1;
            }
            seatAll(nest, birds, sitter);
        }

        void add(int code, int by) {
            if (size < MOST) {
                found[size] = code;
                cameBy[size] = by;
                known[code / BITS] |= 1 << code % BITS;
                size++;
            }
        }

        boolean isKnown(int code) {
            return (known[code / BITS] >> code % BITS & 1) != 0;
        }

        /** The target's place, if a MOVE from the NESTS at i finds it; else 0; -3 if there is one too many. */
        int searchFrom(int i, int target) {
            setNests(found[i]);
            for (int b = 0; b < birds; b++) {
                for (int r = 0; r < roofs; r++) {
                    int code = found[i] + (r - nest[b]) * PLACES[b];
                    if (sitter[r] == NONE && liked[b * MOST_ROOFS + r] && !isKnown(code)) {
                        if (size >= MOST) {
                            return -3;
                        }
                        add(code, i * 100 + b * 10 + r);
                        if (code == target) {
                            return size - 1;
                        }
                    }
                }
            }
            return 0;
        }

        int tellWay(int end, Row row) {
            int moves = 0;
            for (int i = end; i > 0 && moves < MOST; i = cameBy[i] / 100) {
                moves++;
            }
            row.size = Math.min(moves, Row.MOST);
            int place = moves - 1;
            for (int i = end; i > 0 && place >= 0; i = cameBy[i] / 100) {
                if (place < Row.MOST) {
                    row.numbers[place] = cameBy[i] % 100;
                }
                place--;
            }
            return moves;
        }
    }
}
