/** Promises 28 to 30: rest. */
public final class RestTest {
    private static final Due due = new Due("RestTest");

    public static void main(String[] args) {
        restsAsked();
        waysAsked();
        kindestAsked();
        tooMany();
        nothingChanges();
        due.finish();
    }

    private static void restsAsked() {
        StorksLet s = Due.town(TownTest.TOWN);
        due.is("arrivals left aside", s.rests(), 0);
        due.row("all would go", s, 7);
        s.days(6);
        due.is("at rest", s.rests(), 1);
        due.row("at rest", s, 0);
        Due.frost(s, "9");
        due.is("frost left aside", s.rests(), 1);
        s.build(0, 2, 9);
        due.is("roof 0 is worth more", s.rests(), 0);
        due.row("bird 2 would go; bird 1 is too weak", s, 4);
        s.build(0, 2, 5);
        s.ring(2, 0, 1);
        due.is("bird 2 is weak", s.rests(), 0);
        due.row("both others would go to its roof", s, 3);
        due.is("no birds", Due.town("r111@0").rests(), 1);
        StorksLet t = Due.town("r500@0;b5");
        Due.rule(t, "d");
        due.is("DAY as it is: 0", t.rests(), 1);
        t.day();
        due.is("DAY as it is: 1", t.rests(), 0);
    }

    private static void waysAsked() {
        StorksLet s = Due.town(TownTest.TOWN);
        due.is("one", s.ways(), 1);
        due.row("one", s, 0, 1, 2);
        s.days(4);
        due.is("NESTS as they are do not matter", s.ways(), 1);
        due.row("NESTS as they are do not matter", s, 0, 1, 2);
        due.is("nor for the kindest", s.kindest(), 3);
        StorksLet t = Due.town("r500@0;r500@0;b5;b5");
        due.is("two", t.ways(), 2);
        due.row("the least", t, 0, 1);
        Due.rule(t, "0");
        due.is("nobody wants a nest: what is worth 0 is left for none", t.ways(), 7);
        due.row("the least", t, -1, -1);
        Due.rule(t, "10-o*20");
        due.is("they would go elsewhere, but can't", t.ways(), 2);
        t.ring(0, 0, 6);
        due.row("two", t, 0, 1);
        due.is("the stronger always would", t.ways(), 0);
        due.row("none without", t);
        t.ring(0, 0, 5);
        Due.rule(t, "1+o");
        due.is("o by that way", t.ways(), 2);
        StorksLet u = Due.town("r500@0;b5;b5;b6");
        due.is("the strongest alone", u.ways(), 1);
        due.row("the strongest alone", u, -1, -1, 0);
        u.ring(2, 0, 5);
        due.is("any of equal ones", u.ways(), 3);
        due.row("any of equal ones", u, -1, -1, 0);
        u.ring(2, 0, 6);
        u.day();
        u.ring(2, 0, 5);
        due.nests("the last bird has it", u, -1, -1, 0);
        due.is("the last bird has it, but that does not matter", u.ways(), 3);
        Due.rule(u, "0");
        due.is("nor if none is a way, too", u.ways(), 4);
        due.is("no roofs", Due.town("b1;b1").ways(), 1);
        due.is("nothing at all", new StorksLet().ways(), 1);
    }

    private static void kindestAsked() {
        StorksLet s = Due.town(TownTest.TOWN);
        due.is("all live", s.kindest(), 3);
        due.row("all live", s, 0, 1, 2);
        StorksLet t = Due.town("r500@0;b5;b5;b5;f0;f1;f1;f2;f2");
        due.is("the most families", t.kindest(), 2);
        due.row("of as good ones the least row", t, -1, -1, 0);
        t.swear(0, 1);
        due.is("three", t.kindest(), 3);
        due.row("three", t, -1, 0, -1);
        Due.rule(t, "10-o*20");
        due.is("with one roof one that left it would come back", t.ways(), 3);
        StorksLet u = Due.town("r500@0;r500@0;b5;f0");
        Due.rule(u, "10-o*20");
        u.day();
        due.is("none", u.kindest(), -2);
        due.row("the row stays", u, 1, 0);
        due.is("no families", Due.town("r500@0;b5").kindest(), 0);
        due.is("nothing", new StorksLet().kindest(), 0);
    }

    private static void tooMany() {
        StorksLet s = Due.town("r111@0;r111@0;r111@0;r111@0", "b1;b1;b1;b1;b1;b1");
        due.is("5 to the 6th is 15625", s.ways(), 360);
        due.row("least", s, -1, -1, 0, 1, 2, 3);
        Due.addTown(s, "r111@0");
        due.is("6 to the 6th is 46656", s.ways(), -3);
        due.is("kindest too", s.kindest(), -3);
        due.row("the row stays", s, -1, -1, 0, 1, 2, 3);
        StorksLet t = Due.town("r111@0;r111@0;r111@0;r111@0;r111@0;r111@0", "b1;b2;b3;b4;b5");
        due.is("7 to the 5th is 16807", t.ways(), 720);
        due.is("kindest", t.kindest(), 0);
        Due.addTown(t, "b6");
        due.is("7 to the 6th", t.kindest(), -3);
    }

    private static void nothingChanges() {
        StorksLet s = Due.town(TownTest.TOWN);
        s.days(4);
        s.rests();
        s.ways();
        s.kindest();
        due.nests("nests", s, 2, 0, -1);
        due.is("DAY", s.count(3), 4);
        due.is("sitter", s.roof(2, 5), 0);
    }
}
