/** Promises 31 to 35: lords. */
public final class LordsTest {
    private static final Due due = new Due("LordsTest");

    public static void main(String[] args) {
        wheelAsked();
        wheelAmongRivals();
        courtsAsked();
        winAsked();
        driveAsked();
        chooseAsked();
        nothingChanges();
        due.finish();
    }

    private static void wheelAsked() {
        StorksLet s = Due.town("r500@0;r900@1;r300@0;b5;f0;f0");
        Due.rule(s, "h+w*5");
        due.is("roof 0 is 10 with a wheel", s.wheel(0, 1), 0);
        due.row("two instead of none", s, 2, 0);
        due.is("0 days", s.wheel(0, 0), 0);
        due.row("0 days: as it is", s, 0, 0);
        s.build(0, 0, 1);
        due.is("roof 0 is 6 then, roof 2 is 8", s.wheel(0, 1), 0);
        due.row("neither is enough: the first", s, 0, 0);
        s.build(2, 0, 5);
        due.is("roof 2 is 10", s.wheel(0, 1), 2);
        due.row("roof 2 is 10", s, 2, 0);
        s.build(2, 3, 1);
        due.is("the wheel on roof 2 stays: roof 0 does as well", s.wheel(0, 1), 0);
        due.row("it is so already", s, 2, 2);
        s.build(0, 0, 6);
        due.is("and roof 0 is 11", s.wheel(0, 1), 0);
        s.build(0, 4, 3);
        due.is("left there", s.wheel(0, 1), 2);
        due.row("left there", s, 2, 2);
        due.is("lord 1", s.wheel(1, 1), 1);
        due.is("no roof", s.wheel(2, 1), -2);
        due.row("the row of lord 1", s, 2, 0);
        due.is("60", s.wheel(0, 60), 2);
        due.row("60", s, 2, 2);
        due.is("61", s.wheel(0, 61), -1);
        due.is("-1", s.wheel(0, -1), -1);
        due.is("lord 4", s.wheel(4, 1), -1);
        due.is("lord -1", s.wheel(-1, 1), -1);
        due.is("no roof, but asked for first: NONE", s.wheel(2, 61), -1);
        due.row("the row stays", s, 2, 2);
    }

    private static void wheelAmongRivals() {
        // A WHEEL draws the bird away from the other ROOF of the LORD: nothing is won; other WHEELS stay.
        StorksLet s = Due.town("r500@0;r400@0;r600w@1;b5;b4;f0;f1");
        Due.rule(s, "h+w*3");
        due.is("bird 0 goes to roof 2 (9), bird 1 to roof 0", s.wheel(0, 1), 0);
        due.row("one: the stronger stays", s, 1, 1);
        s.build(2, 3, 0);
        s.build(2, 0, 7);
        due.is("roof 0 draws bird 0 (8), bird 1 goes to roof 2 (7)", s.wheel(0, 1), 0);
        due.row("one", s, 1, 1);
        s.build(2, 0, 3);
        due.row("one still told", s, 1, 1);
        due.is("both on its roofs", s.wheel(0, 1), 0);
        due.row("two", s, 2, 2);
    }

    private static void courtsAsked() {
        StorksLet s = Due.town("r500@0;r600@1;b5;f0");
        Due.rule(s, "h+w*5");
        // LORD 0: 10 against 6; LORD 1: 11 against 10; LORD 0 has nothing more to put up.
        due.is("two rounds", s.courts(1, 12), 2);
        due.row("both have wheels", s, 1, 3);
        due.is("one round", s.courts(1, 1), 1);
        due.row("not yet at the end", s, 0, 3);
        due.is("no round", s.courts(1, 0), 0);
        due.row("no round", s, 0, 0);
        s.build(0, 3, 1);
        s.build(1, 3, 1);
        due.is("none does", s.courts(20, 12), 1);
        due.row("none does", s, 1, 3);
        due.is("n 0", s.courts(0, 1), -1);
        due.is("n 21", s.courts(21, 1), -1);
        due.is("m -1", s.courts(1, -1), -1);
        due.is("m 13", s.courts(1, 13), -1);
        due.row("the row stays", s, 1, 3);
        StorksLet t = Due.town("r500@0;r500@0;r700@1;r600@1;b5;f0");
        Due.rule(t, "h+w*3");
        // 0 puts up 8 on roof 0; 1 answers with 10 on roof 2; then nobody gains.
        due.is("three lines", t.courts(1, 12), 2);
        due.row("roofs 0 and 2", t, 1, 5);
        due.is("nothing at all", new StorksLet().courts(1, 5), 1);
        // The only bird lives under LORD 0 anyway: a WHEEL brings it nothing, and LORD 1 can't win.
        StorksLet u = Due.town("r900@0;r800@0;r100@1;b5;f0");
        Due.rule(u, "h+w*3");
        due.is("nobody gains", u.courts(3, 12), 1);
        due.row("nobody gains", u, 1, 0);
        u.build(1, 3, 1);
        due.is("as it is: roof 1", u.courts(3, 12), 1);
        due.row("as it is: roof 1", u, 1, 2);
        due.is("m 12, n 20", u.courts(20, 12), 1);
    }

    private static void winAsked() {
        StorksLet s = Due.town(TownTest.TOWN);
        due.is("11 to beat for bird 0: 3 + v - 2", s.win(0, 1, 1), -2);
        due.is("roof 0: 5 + v, the first of equal ones", s.win(0, 0, 1), 6);
        due.is("its own: 2 + v above 10", s.win(0, 2, 1), 9);
        s.build(1, 1, 0);
        due.is("3 + 8 is 11, the first of equal ones", s.win(0, 1, 1), 8);
        due.is("it is not there yet", s.win(1, 0, 2), -2);
        StorksLet t = Due.town("r100@0;b5");
        due.is("0 is enough", t.win(0, 0, 1), 0);
        Due.rule(t, "v=9");
        due.is("9 alone", t.win(0, 0, 1), 9);
        due.is("bird 3", s.win(3, 0, 1), -1);
        due.is("bird -1", s.win(-1, 0, 1), -1);
        due.is("roof 3", s.win(0, 3, 1), -1);
        due.is("roof -1", s.win(0, -1, 1), -1);
        due.is("n 0", s.win(0, 0, 0), -1);
        due.is("n 61", s.win(0, 0, 61), -1);
        due.is("n 60", s.win(2, 2, 60), 9);
        due.is("it stays as it was", s.roof(0, 2), 5);
    }

    private static void driveAsked() {
        StorksLet s = Due.town(TownTest.TOWN);
        due.is("no nest", s.drive(0, 1), -3);
        s.day();
        due.is("11 - smoke below 10", s.drive(0, 1), 2);
        due.row("goes to roof 0", s, 0);
        due.is("4 days on it is driven off anyway", s.drive(0, 4), 0);
        due.row("no nest then", s, -1);
        due.is("n 0", s.drive(0, 0), -1);
        due.is("n 61", s.drive(0, 61), -1);
        due.is("bird 3", s.drive(3, 1), -1);
        due.is("bird -1", s.drive(-1, 1), -1);
        due.is("asked for first", s.drive(1, 61), -1);
        due.row("the row stays", s, -1);
        StorksLet u = Due.town("r900@0;r100@0;b5");
        u.day();
        due.is("9 alone: 0 is less than 1", u.drive(0, 1), 9);
        due.row("9 alone", u, 1);
        StorksLet t = Due.town("r900@0;r000@0;b5");
        t.day();
        due.is("smoke can't", t.drive(0, 60), -2);
        due.row("the row of day() stays", t, 0, 0);
        due.is("smoke as it was", t.roof(0, 1), 0);
    }

    private static void chooseAsked() {
        StorksLet s = Due.town(TownTest.TOWN);
        s.days(4);
        due.is("bird 0 is driven off for a day", s.choose(0, 3), 1);
        due.row("three days, three frogs", s, 3, 3);
        due.is("one day alone", s.choose(0, 1), 1);
        due.row("one day alone", s, 1, 1);
        due.is("60 days", s.choose(0, 60), 1);
        due.is("its own of as good ones", s.choose(2, 3), 2);
        due.row("bird 2 lives three days, too", s, 3, 0);
        s.swear(2, 0);
        due.is("else the first", s.choose(2, 3), 1);
        due.row("else the first", s, 3, 0);
        due.is("family 3", s.choose(3, 1), -1);
        due.is("family -1", s.choose(-1, 1), -1);
        due.is("n 0", s.choose(0, 0), -1);
        due.is("n 61", s.choose(0, 61), -1);
        due.is("its bird stays", s.family(0, 0), 0);
        StorksLet t = Due.town("r111@0;b5;b6;f0*3");
        Due.rule(t, "f*(k=5)");
        due.is("f is counted as it would be", t.choose(0, 5), 0);
        due.row("f is counted as it would be", t, 5, 15);
        Due.rule(t, "f*(k=6)");
        due.is("the other likes families", t.choose(0, 5), 1);
        due.row("the other likes families", t, 5, 15);
        t.swear(0, 1);
        Due.rule(t, "f*(k=5)");
        due.is("the first is better than its own", t.choose(0, 60), 0);
        due.row("the first is better than its own", t, 60, 180);
        t.swear(0, 0);
        Due.rule(t, "0");
        due.is("none is any good: its own", t.choose(0, 5), 0);
        due.row("none is any good", t, 0, 0);
    }

    private static void nothingChanges() {
        StorksLet s = Due.town(TownTest.TOWN);
        s.days(4);
        s.wheel(0, 9);
        s.courts(9, 9);
        s.win(0, 0, 9);
        s.drive(0, 9);
        s.choose(0, 9);
        due.nests("nests", s, 2, 0, -1);
        due.is("DAY", s.count(3), 4);
        due.is("wheels", s.roof(0, 3) + s.roof(2, 3), 0);
        due.is("views", s.roof(0, 2), 5);
        due.is("smoke", s.roof(2, 1), 0);
        due.is("frogs", s.count(7), 8);
        due.is("worth", s.worth(2, 1), 11);
    }
}
