/** Promises 22 to 27: days to come. */
public final class AheadTest {
    private static final Due due = new Due("AheadTest");

    public static void main(String[] args) {
        laterAsked();
        calmAsked();
        movesAsked();
        incomeAsked();
        homelessAsked();
        bearsAsked();
        daysOfTheRule();
        nothingChanges();
        due.finish();
    }

    private static void laterAsked() {
        StorksLet s = Due.town(TownTest.TOWN);
        due.is("now", s.later(0, 0), -1);
        due.row("now", s, -1, -1, -1);
        due.is("5 days on", s.later(0, 5), -1);
        due.row("NONE comes with its row", s, -1, 0, 2);
        due.is("6 days on", s.later(0, 6), 0);
        due.row("6 days on", s, 0, 1, 2);
        due.is("60", s.later(2, 60), 2);
        due.is("61", s.later(2, 61), -2);
        due.is("-1", s.later(2, -1), -2);
        due.is("bird 3", s.later(3, 0), -2);
        due.is("bird -1", s.later(-1, 0), -2);
        due.row("the row stays", s, 0, 1, 2);
    }

    private static void calmAsked() {
        StorksLet s = Due.town(TownTest.TOWN);
        s.days(4);
        due.is("two days", s.calm(), 2);
        due.row("two days", s, 0, 1, 2);
        StorksLet t = Due.town("r500@0;b5/60");
        due.is("already now", t.calm(), 0);
        due.row("already now", t, -1);
        StorksLet u = Due.town("r500@0;b5");
        Due.frost(u, "05");
        u.rests();
        due.is("never", u.calm(), -2);
        due.row("the row stays", u, 1);
        Due.frost(u, "055555");
        due.is("rest of a cold spell", u.calm(), 2);
        due.row("without nests", u, -1);
        // The rule makes the bird move to the other roof in each of the days 0 .. 59: rest comes with day 60 alone.
        StorksLet v = Due.town("r500@0;r500@0;b5");
        Due.rule(v, "(d<60)*(2-o)");
        due.is("the last that counts", v.calm(), 60);
        due.row("the last that counts", v, 1);
        Due.rule(v, "(d<61)*(2-o)");
        due.is("one too late", v.calm(), -2);
        due.is("no birds", new StorksLet().calm(), 0);
    }

    private static void movesAsked() {
        StorksLet s = Due.town(TownTest.TOWN);
        due.is("none yet", s.moves(0, 0), 0);
        due.row("none yet", s, 0, 0);
        due.is("6 days", s.moves(0, 6), 2);
        due.row("6 days", s, 1, 5);
        s.day();
        due.is("those behind are left aside", s.moves(0, 5), 1);
        due.row("those behind", s, 1, 4);
        due.is("family 1", s.moves(1, 60), 2);
        due.row("family 1", s, 1, 118);
        due.is("61", s.moves(0, 61), -1);
        due.is("-1", s.moves(0, -1), -1);
        due.is("family 3", s.moves(3, 1), -1);
        due.is("family -1", s.moves(-1, 1), -1);
        due.row("the row stays", s, 1, 118);
    }

    private static void incomeAsked() {
        StorksLet s = Due.town(TownTest.TOWN);
        due.is("none yet", s.income(0, 0), 0);
        due.row("none yet", s, 0, 0, 0, 0);
        due.is("lord 1", s.income(1, 7), 4);
        due.row("lord 1", s, 12, 4, 0, 0);
        due.is("the same again", s.income(1, 7), 4);
        due.row("the same again", s, 12, 4, 0, 0);
        due.is("lord 3", s.income(3, 60), 0);
        due.is("lord 4", s.income(4, 1), -1);
        due.is("lord -1", s.income(-1, 1), -1);
        due.is("61", s.income(0, 61), -1);
        due.is("-1", s.income(0, -1), -1);
    }

    private static void homelessAsked() {
        StorksLet s = Due.town(TownTest.TOWN);
        due.is("none now", s.homeless(0), -3);
        due.is("none such", s.homeless(3), -1);
        due.is("none such", s.homeless(-1), -1);
        s.day();
        due.is("driven off in day 4", s.homeless(0), 4);
        s.days(3);
        due.is("the next day", s.homeless(0), 1);
        due.is("in none: it changes at once", s.homeless(1), -2);
        StorksLet t = Due.town("r500@0;b3;b9/60");
        t.day();
        due.is("60 days on", t.homeless(0), 60);
        t.ring(1, 1, 61);
        due.is("61 days on", t.homeless(0), -2);
    }

    private static void bearsAsked() {
        StorksLet s = Due.town(TownTest.TOWN);
        s.days(4);
        due.is("3 days", s.bears(3), 2);
        due.is("1 day", s.bears(1), -2);
        due.is("0", s.bears(0), -1);
        due.is("61", s.bears(61), -1);
        due.is("60", s.bears(60), 2);
        Due.frost(s, "9");
        due.is("FROST as it is told does not matter", s.bears(3), 2);
        due.is("no families", new StorksLet().bears(1), 9);
        due.is("none at all is borne by the weakest", Due.town("r500@0;b1;f0").bears(1), 0);
        StorksLet t = Due.town("r500@0;b9;f0");
        due.is("8 is borne", t.bears(1), 8);
        t.day();
        t.ring(0, 1, 99);
        due.is("one that has a nest ahead of its arrival feels none", t.bears(1), 9);
        StorksLet v = Due.town("r500@0;b5;f0");
        Due.frost(v, "05");
        v.bears(9);
        for (int n = 1; n <= 6; n++) {
            due.is("FROST as it is told counts again, " + n, v.later(0, n), n % 2 - 1);
        }
        // The weak one sits on the only roof with worth unless the frost drives it off for the strong one's family.
        StorksLet u = Due.town("r900@0;r100@0;b3;b7;f1");
        due.is("6", u.bears(2), 6);
    }

    /** WORTH of one DAY must not be taken for that of another, however the DAY came. */
    private static void daysOfTheRule() {
        StorksLet s = Due.town("r500@0;r500@0;b5");
        Due.rule(s, "1+(r=d)*9");
        s.keep(0);
        due.is("day 0: roof 0", s.later(0, 1), 0);
        s.day();
        due.is("day 1: roof 1", s.worth(1, 0), 10);
        s.again(0);
        due.is("day 0 again: roof 0", s.later(0, 1), 0);
        due.is("worth", s.worth(0, 0), 10);
        s.day();
        due.is("worth of day 1", s.worth(0, 0), 1);
        s.undo();
        due.is("undone: worth", s.worth(0, 0), 10);
        due.is("day 1 to come", s.later(0, 2), 1);
        due.is("now", s.bird(0, 5), 0);
    }

    private static void nothingChanges() {
        StorksLet s = Due.town(TownTest.TOWN);
        s.days(3);
        s.later(0, 9);
        s.calm();
        s.moves(0, 9);
        s.income(0, 9);
        s.homeless(0);
        s.bears(9);
        due.nests("nests", s, 2, 0, -1);
        due.is("DAY", s.count(3), 3);
        due.is("frogs", s.count(7), 5);
        due.is("moves", s.count(6), 2);
        due.is("undo", s.count(8), 1);
        due.is("frost is none again", s.day(), 0);
        due.nests("frost is none again", s, 2, 0, -1);
    }
}
