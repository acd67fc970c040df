import java.util.NoSuchElementException;

/**
 * "Refused calls answer NONE, or false, and change nothing but THE TEXT, which a call that reads it empties", and "The
 * ROW stays ..": one of two like towns is asked, then both must tell the same of all that can be asked. Nor do calls
 * change anything that only ask.
 */
public final class TwinsTest {
    private static final Due due = new Due("TwinsTest");

    /** A call; a boolean counts 1 or 0. */
    interface Act {
        long on(StorksLet s);
    }

    public static void main(String[] args) {
        refusedOfTown();
        refusedTexts();
        refusedOfDays();
        refusedOfDaysToCome();
        refusedOfLords();
        refusedOfRings();
        withoutAnswer();
        thrown();
        asking();
        due.finish();
    }

    /** A town in which all that there is has been used. */
    private static StorksLet subject() {
        StorksLet s = Due.town(TownTest.TOWN);
        Due.rule(s, "h+v-s+o+w*i");
        Due.frost(s, "00000002");
        s.keep(0);
        s.days(5);
        s.pay(1, 0, 2);
        s.keep(1);
        Due.spring(s, "w0;s13;f0>2;d");
        s.ring(2, 1, 3);
        s.seen(0, 0, 2);
        s.seen(1, -1, 4);
        Due.aim(s, "201");
        Due.tell(s, "b9;b9");
        s.income(0, 9);
        return s;
    }

    private static void look(StorksLet s, StringBuilder into) {
        for (int what = 0; what <= 11; what++) {
            into.append(' ').append(s.count(what));
        }
        for (int n = 0; n < 3; n++) {
            for (int what = 0; what <= 6; what++) {
                into.append(' ').append(s.roof(n, what));
                into.append(' ').append(what > 5 ? 0 : s.bird(n, what));
                into.append(' ').append(what > 4 ? 0 : s.family(n, what));
                into.append(' ').append(what > 3 ? 0 : s.owes(n, what));
                into.append(' ').append(what > 2 ? 0 : s.worth(n, what));
            }
        }
        for (int i = 0; i < s.count(10); i++) {
            into.append(' ').append(s.row(i));
        }
    }

    /** All that can be asked, and then what comes of the state that can't be seen. */
    private static String all(StorksLet s) {
        StringBuilder all = new StringBuilder();
        look(s, all);
        s.later(0, 8);
        all.append(" later").append(s.row(0)).append(s.row(1)).append(s.row(2));
        all.append(" fewest").append(s.fewest()).append(s.row(0));
        all.append(" seen").append(s.strengths(0)).append(' ').append(s.latest(1)).append(' ').append(s.absent());
        while (s.undo() >= 0) {
            all.append(" undone").append(s.count(3)).append(' ').append(s.count(7)).append(' ').append(s.roof(0, 3)).append(s.roof(1, 1));
        }
        for (int i = 0; i <= 1; i++) {
            all.append(" again").append(s.again(i)).append(s.count(3)).append(' ').append(s.count(6)).append(' ').append(s.count(7));
        }
        return all.toString();
    }

    private static void same(String call, StorksLet s, StorksLet twin) {
        String is = all(s);
        String should = all(twin);
        due.is(call + " leaves all as it is", is.equals(should), true);
        if (!is.equals(should)) {
            System.out.println("  is " + is + "\n  not" + should);
        }
    }

    private static void refused(String call, long answer, Act act) {
        StorksLet s = subject();
        due.is(call, act.on(s), answer);
        same(call, s, subject());
    }

    private static void refusedText(String text, long answer, String call, Act act) {
        StorksLet s = subject();
        StorksLet twin = subject();
        Due.tell(s, text);
        twin.end(0);
        due.is(call + " of " + text, act.on(s), answer);
        same(call + " of " + text, s, twin);
    }

    private static void refusedOfTown() {
        for (int n : Due.outside(0, 5)) {
            refused("end(" + n + ")", 0, s -> s.end(n) ? 1 : 0);
        }
        for (int n : Due.outside(0, 2)) {
            refused("build(" + n + ", 0, 1)", -1, s -> s.build(n, 0, 1));
            refused("ring(" + n + ", 0, 1)", -1, s -> s.ring(n, 0, 1));
            refused("swear(" + n + ", 0)", -1, s -> s.swear(n, 0));
            refused("swear(0, " + n + ")", -1, s -> s.swear(0, n));
        }
        int[] most = {9, 9, 9, 1, 3};
        for (int what = 0; what < most.length; what++) {
            int asked = what;
            for (int v : Due.outside(0, most[what])) {
                refused("build(0, " + what + ", " + v + ")", -1, s -> s.build(0, asked, v));
            }
        }
        for (int n : Due.outside(0, 4)) {
            refused("build(0, " + n + ", 1)", -1, s -> s.build(0, n, 1));
        }
        for (int n : Due.outside(1, 9)) {
            refused("ring(0, 0, " + n + ")", -1, s -> s.ring(0, 0, n));
        }
        for (int n : Due.outside(0, 99)) {
            refused("ring(0, 1, " + n + ")", -1, s -> s.ring(0, 1, n));
        }
        for (int n : Due.outside(0, 1)) {
            refused("ring(0, " + n + ", 1)", -1, s -> s.ring(0, n, 1));
        }
        for (int n : Due.outside(0, 3)) {
            refused("sheet(" + n + ", 1, 1, 1)", -1, s -> s.sheet(n, 1, 1, 1));
            refused("sheet(" + n + ", -1, 1, 1)", -1, s -> s.sheet(n, -1, 1, 1));
        }
        for (int kind = 0; kind <= 2; kind++) {
            int asked = kind;
            refused("sheet(" + kind + ", 7, 1, 1)", -1, s -> s.sheet(asked, 7, 1, 1));
            refused("sheet(" + kind + ", -1, 1, 1)", -2, s -> s.sheet(asked, -1, 1, 1));
        }
        refused("sheet(3, 7, 1, 1)", -1, s -> s.sheet(3, 7, 1, 1));
    }

    private static void refusedTexts() {
        refusedText("r111@0;b1;f3;f9", -15, "town", StorksLet::town);
        refusedText("r111@0;r111@0;r111@0;r111@0", -22, "town", StorksLet::town);
        refusedText("b1;", -4, "town", StorksLet::town);
        refusedText(";", -1, "town", StorksLet::town);
        refusedText("h+v)", -4, "rule", StorksLet::rule);
        refusedText("h+", -3, "rule", StorksLet::rule);
        refusedText("9".repeat(3) + "+9".repeat(20), -41, "rule", StorksLet::rule);
        refusedText("999x", -4, "frost", StorksLet::frost);
        refusedText("9".repeat(44), -41, "frost", StorksLet::frost);
        refusedText("w0;d9;f0>0;x", -13, "spring", StorksLet::spring);
        refusedText("w1;".repeat(21), -61, "spring", StorksLet::spring);
        refusedText("102-", -4, "aim", StorksLet::aim);
        refusedText("10", -3, "aim", StorksLet::aim);
        refusedText("00-", -2, "aim", StorksLet::aim);
        // An empty one tells nothing.
        refusedText("", 0, "town", StorksLet::town);
        StorksLet s = subject();
        StorksLet twin = subject();
        for (StorksLet one : new StorksLet[] {s, twin}) {
            Due.tell(one, "1".repeat(80));
        }
        due.is("an 81st sign", s.sign(0x31313131), -1);
        same("an 81st sign", s, twin);
    }

    private static void refusedOfDays() {
        for (int n : Due.outside(0, 60)) {
            refused("days(" + n + ")", -1, s -> s.days(n));
        }
        for (int n : Due.outside(0, 2)) {
            refused("pay(" + n + ", 0, 1)", -1, s -> s.pay(n, 0, 1));
            refused("owes(" + n + ", 0)", -1, s -> s.owes(n, 0));
        }
        for (int n : Due.outside(0, 3)) {
            refused("pay(1, " + n + ", 1)", -1, s -> s.pay(1, n, 1));
            refused("owes(0, " + n + ")", -1, s -> s.owes(0, n));
            refused("lord(" + n + ")", -1, s -> s.lord(n));
        }
        for (int n : Due.outside(1, 999)) {
            refused("pay(1, 0, " + n + ")", -1, s -> s.pay(1, 0, n));
        }
        StorksLet s = Due.town(TownTest.TOWN);
        StorksLet twin = Due.town(TownTest.TOWN);
        for (StorksLet one : new StorksLet[] {s, twin}) {
            Due.aim(one, "012");
            one.income(0, 9);
        }
        due.is("undo() of nothing", s.undo(), -1);
        due.is("again() of nothing", s.again(0), false);
        same("undo(), again() of nothing", s, twin);
    }

    private static void refusedOfDaysToCome() {
        for (int n : Due.outside(0, 60)) {
            refused("later(0, " + n + ")", -2, s -> s.later(0, n));
            refused("moves(0, " + n + ")", -1, s -> s.moves(0, n));
            refused("income(0, " + n + ")", -1, s -> s.income(0, n));
        }
        for (int n : Due.outside(0, 2)) {
            refused("later(" + n + ", 1)", -2, s -> s.later(n, 1));
            refused("moves(" + n + ", 1)", -1, s -> s.moves(n, 1));
            refused("homeless(" + n + ")", -1, s -> s.homeless(n));
        }
        for (int n : Due.outside(0, 3)) {
            refused("income(" + n + ", 1)", -1, s -> s.income(n, 1));
        }
        for (int n : Due.outside(1, 60)) {
            refused("bears(" + n + ")", -1, s -> s.bears(n));
        }
    }

    private static void refusedOfLords() {
        for (int n : Due.outside(0, 60)) {
            refused("wheel(0, " + n + ")", -1, s -> s.wheel(0, n));
        }
        for (int n : Due.outside(0, 3)) {
            refused("wheel(" + n + ", 1)", -1, s -> s.wheel(n, 1));
        }
        for (int n : Due.outside(1, 20)) {
            refused("courts(" + n + ", 1)", -1, s -> s.courts(n, 1));
        }
        for (int n : Due.outside(0, 12)) {
            refused("courts(1, " + n + ")", -1, s -> s.courts(1, n));
        }
        for (int n : Due.outside(1, 60)) {
            refused("win(0, 0, " + n + ")", -1, s -> s.win(0, 0, n));
            refused("drive(0, " + n + ")", -1, s -> s.drive(0, n));
            refused("choose(0, " + n + ")", -1, s -> s.choose(0, n));
        }
        for (int n : Due.outside(0, 2)) {
            refused("win(" + n + ", 0, 1)", -1, s -> s.win(n, 0, 1));
            refused("win(0, " + n + ", 1)", -1, s -> s.win(0, n, 1));
            refused("drive(" + n + ", 1)", -1, s -> s.drive(n, 1));
            refused("choose(" + n + ", 1)", -1, s -> s.choose(n, 1));
        }
    }

    private static void refusedOfRings() {
        for (int n : Due.outside(0, 2)) {
            refused("seen(" + n + ", 0, 1)", -1, s -> s.seen(n, 0, 1));
            refused("strengths(" + n + ")", -1, s -> s.strengths(n));
            refused("latest(" + n + ")", -1, s -> s.latest(n));
            refused("chance(" + n + ", 1, 1)", -1, s -> s.chance(n, 1, 1));
        }
        for (int n : Due.outside(-1, 2)) {
            refused("seen(0, " + n + ", 1)", -1, s -> s.seen(0, n, 1));
        }
        for (int n : Due.outside(1, 60)) {
            refused("seen(0, 0, " + n + ")", -1, s -> s.seen(0, 0, n));
        }
        for (int n : Due.outside(0, 30)) {
            refused("chance(0, " + n + ", 1)", -1, s -> s.chance(0, n, 1));
            refused("safest(" + n + ", 1)", -1, s -> s.safest(n, 1));
        }
        for (int n : Due.outside(0, 10)) {
            refused("chance(0, 1, " + n + ")", -1, s -> s.chance(0, 1, n));
            refused("safest(1, " + n + ")", -1, s -> s.safest(1, n));
        }
        for (int n : Due.outside(0, 1)) {
            refused("keep(" + n + ")", 0, s -> s.keep(n) ? 1 : 0);
            refused("again(" + n + ")", 0, s -> s.again(n) ? 1 : 0);
        }
        for (int n : Due.outside(0, 11)) {
            refused("count(" + n + ")", -1, s -> s.count(n));
        }
        StorksLet s = subject();
        StorksLet twin = subject();
        for (int i = 3; i <= 10; i++) {
            due.is("seen", s.seen(0, 0, 2), i);
            twin.seen(0, 0, 2);
        }
        due.is("an 11th", s.seen(0, -1, 2), -1);
        same("an 11th", s, twin);
    }

    /** Numbers below 0 that tell why there is no answer. */
    private static void withoutAnswer() {
        refused("pay(1, 0, 999)", -2, s -> s.pay(1, 0, 999));
        refused("wheel(2, 9)", -2, s -> s.wheel(2, 9));
        refused("win(0, 2, 1) of a stronger one's ROOF", -2, s -> s.win(0, 2, 1));
        refused("homeless(2)", -2, s -> s.homeless(2));
    }

    private static void threw(String call, Act act) {
        StorksLet s = subject();
        due.noSuch(call, () -> (int) act.on(s));
        same(call, s, subject());
    }

    private static void thrown() {
        for (int n : Due.outside(0, 2)) {
            threw("roof(" + n + ", 0)", s -> s.roof(n, 0));
            threw("bird(" + n + ", 0)", s -> s.bird(n, 0));
            threw("family(" + n + ", 0)", s -> s.family(n, 0));
            threw("worth(" + n + ", 0)", s -> s.worth(n, 0));
            threw("worth(0, " + n + ")", s -> s.worth(0, n));
        }
        for (int n : Due.outside(0, 6)) {
            threw("roof(0, " + n + ")", s -> s.roof(0, n));
        }
        for (int n : Due.outside(0, 5)) {
            threw("bird(0, " + n + ")", s -> s.bird(0, n));
        }
        for (int n : Due.outside(0, 4)) {
            threw("family(0, " + n + ")", s -> s.family(0, n));
        }
        for (int n : Due.outside(0, 3)) {
            threw("row(" + n + ")", s -> s.row(n));
        }
        try {
            subject().row(4);
            due.is("row(4) answers", 1, 0);
        } catch (NoSuchElementException e) {
            due.is("it is no kind of its own", e.getClass() == NoSuchElementException.class, true);
        }
    }

    private static void asks(String call, Act act) {
        StorksLet s = subject();
        StorksLet twin = subject();
        act.on(s);
        // It may have told a ROW: both tell the same one then.
        s.income(0, 9);
        twin.income(0, 9);
        same(call, s, twin);
    }

    /** "days to come (nothing changes)", "Nothing changes", and all else that only asks. */
    private static void asking() {
        asks("later", s -> s.later(0, 60));
        asks("calm", StorksLet::calm);
        asks("moves", s -> s.moves(0, 60));
        asks("income", s -> s.income(0, 60));
        asks("homeless", s -> s.homeless(0));
        asks("bears", s -> s.bears(60));
        asks("rests", StorksLet::rests);
        asks("ways", StorksLet::ways);
        asks("kindest", StorksLet::kindest);
        asks("wheel", s -> s.wheel(0, 60));
        asks("courts", s -> s.courts(20, 12));
        asks("win", s -> s.win(0, 1, 60));
        asks("drive", s -> s.drive(2, 60));
        asks("choose", s -> s.choose(0, 60));
        asks("fewest", StorksLet::fewest);
        asks("gently", StorksLet::gently);
        asks("strengths", s -> s.strengths(1));
        asks("latest", s -> s.latest(1));
        asks("absent", StorksLet::absent);
        asks("chance", s -> s.chance(0, 30, 5));
        asks("safest", s -> s.safest(30, 5));
        asks("lord", s -> s.lord(0));
        asks("owes", s -> s.owes(0, 0));
        asks("days(0)", s -> s.days(0));
    }
}
