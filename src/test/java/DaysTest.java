/** Promises 15 to 21: days. */
public final class DaysTest {
    private static final Due due = new Due("DaysTest");

    public static void main(String[] args) {
        dayByDay();
        severalDays();
        frostInDays();
        fights();
        birdsThatAreNotThere();
        nestsOfNoWorth();
        frogsHaveAnEnd();
        springWorks();
        springStops();
        springWrong();
        pays();
        lordsAsked();
        undoes();
        undoOfSpring();
        undoForgotten();
        due.finish();
    }

    private static void dayByDay() {
        StorksLet s = Due.town(TownTest.TOWN);
        int[] changed = {1, 0, 1, 0, 2, 2, 0};
        int[][] rows = {{1, 2}, {0, 2}, {1, 1}, {0, 1}, {1, 1}, {2, 0}, {0, 0}};
        int[][] nests = {{2, -1, -1}, {2, -1, -1}, {2, 0, -1}, {2, 0, -1}, {-1, 0, 2}, {0, 1, 2}, {0, 1, 2}};
        for (int d = 0; d < changed.length; d++) {
            due.is("day " + d, s.day(), changed[d]);
            due.row("day " + d, s, rows[d]);
            due.nests("day " + d, s, nests[d]);
            due.is("DAY", s.count(3), d + 1);
        }
    }

    private static void severalDays() {
        StorksLet s = Due.town(TownTest.TOWN);
        due.is("0 days", s.days(0), 0);
        due.row("0 days", s, 0, 3);
        due.is("nothing to undo", s.count(8), 0);
        due.is("6 days", s.days(6), 5);
        due.row("6 days", s, 13, 0);
        due.is("DAY", s.count(3), 6);
        due.is("as one", s.count(8), 1);
        due.is("one day", s.days(1), 0);
        due.is("can be undone", s.undo(), 1);
        s.days(0);
        due.is("no day can't", s.count(8), 1);
        s.undo();
        s.days(6);
        due.is("61", s.days(61), -1);
        due.is("-1", s.days(-1), -1);
        due.row("the row stays", s, 13, 0);
        due.is("60", s.days(60), 0);
        due.row("60 days", s, 60 * 3, 0);
        due.is("DAY 66", s.count(3), 66);
    }

    private static void frostInDays() {
        StorksLet s = Due.town(TownTest.TOWN);
        s.days(6);
        Due.frost(s, "0000003");
        due.is("bird 1 leaves and looks for none", s.day(), 1);
        due.row("its family lives nowhere", s, 0, 1);
        due.nests("after frost", s, 0, -1, 2);
        due.is("the next day it is back", s.day(), 1);
        due.row("that is a move", s, 1, 0);
        Due.frost(s, "5");
        due.is("two leave", s.day(), 2);
        due.nests("after 5", s, -1, -1, 2);
        Due.frost(s, "9");
        due.is("the last leaves", s.day(), 1);
        due.is("none is there", s.count(4), 0);
        due.is("none lives", s.count(5), 0);
        due.is("none moves", s.day(), 0);
    }

    private static void fights() {
        // Equal STRENGTH drives nobody off; a BIRD that is driven off by a lower number looks in the same DAY.
        StorksLet s = Due.town("r900@0;r500@0;b4;b4");
        s.day();
        due.nests("equal", s, 0, 1);
        s.ring(1, 0, 5);
        s.day();
        due.nests("the second is stronger", s, -1, 0);
        s.day();
        due.nests("the first takes what is left", s, 1, 0);
        s.ring(0, 0, 6);
        due.is("both go", s.day(), 2);
        due.nests("the second looks in the same day", s, 0, 1);
        StorksLet t = Due.town("r500@0;r500@0;b1");
        t.day();
        due.nests("the first of equal ones", t, 0);
        t.build(1, 0, 6);
        t.day();
        due.nests("more is better", t, 1);
        t.build(0, 0, 6);
        due.is("equal is not", t.day(), 0);
    }

    private static void birdsThatAreNotThere() {
        StorksLet s = Due.town("r500@0;r900@0;b5/3;f0");
        s.days(3);
        due.nests("ARRIVAL 3 in DAYS 0 .. 2", s, -1);
        s.day();
        due.nests("DAY 3", s, 1);
        s.ring(0, 1, 99);
        s.build(1, 0, 1);
        Due.frost(s, "9");
        s.day();
        due.nests("one that is not there yet feels no frost and looks for nothing", s, 1);
        s.ring(0, 1, s.count(3));
        s.day();
        due.nests("in the DAY of its ARRIVAL it feels it", s, -1);
        s.undo();
        s.ring(0, 1, 99);
        due.is("its family lives there", s.family(0, 2), 1);
        Due.addTown(s, "b9");
        Due.frost(s, "");
        s.build(1, 0, 9);
        s.day();
        due.nests("but it is driven off", s, -1, 1);
    }

    private static void nestsOfNoWorth() {
        StorksLet s = Due.town("r500@0;r500@0;b5");
        Due.rule(s, "0");
        s.day();
        due.nests("0 is not enough without a nest", s, -1);
        Due.rule(s, "r=1");
        s.day();
        due.nests("1 is", s, 1);
        Due.rule(s, "0-r-1");
        s.day();
        due.nests("less bad is better with one", s, 0);
        Due.rule(s, "0-9*o");
        s.day();
        due.nests("o is of the nest it has", s, 1);
    }

    private static void frogsHaveAnEnd() {
        StorksLet s = Due.town("r500@2;b5;f0*9");
        for (int i = 0; i < 18; i++) {
            s.days(60);
        }
        due.is("9720", s.owes(0, 2), 9720);
        s.days(30);
        due.is("9990", s.owes(0, 2), 9990);
        due.is("the last", s.days(60), 0);
        due.row("counted by rent all the same", s, 540, 0);
        due.is("9999 at most", s.owes(0, 2), 9999);
        due.is("income", s.income(2, 2), 18);
        s.moves(0, 3);
        due.row("moves", s, 0, 27);
        due.is("paid", s.pay(0, 2, 999), 9000);
        s.day();
        due.is("it rises again", s.owes(0, 2), 9009);
        s.build(0, 4, 3);
        s.day();
        due.is("another lord", s.owes(0, 3), 9);
        due.is("in all", s.family(0, 4), 9018);
    }

    private static void springWorks() {
        StorksLet s = Due.town(TownTest.TOWN);
        s.days(4);
        due.is("works", Due.spring(s, "w0;w1;s19;x0;f0>1;d2"), 6);
        due.row("moves in them", s, 0, 2);
        due.is("put up", s.roof(0, 3), 1);
        due.is("taken down", s.roof(1, 3), 0);
        due.is("smoke", s.roof(1, 1), 9);
        due.is("sworn", s.family(0, 0), 1);
        due.is("days", s.count(3), 6);
        due.is("text", s.count(11), 0);
        due.is("d alone", Due.spring(s, "d;d1;d9"), 3);
        due.is("11 days", s.count(3), 17);
        due.is("nothing", Due.spring(s, ""), 0);
        due.row("nothing", s, 0, 0);
        StorksLet t = Due.town("r500@0;b5;f0");
        t.day();
        due.is("driven off", Due.spring(t, "x0"), 1);
        due.nests("no nest", t, -1);
        due.is("its family lives there till the next day", t.family(0, 2), 0);
        due.is("it comes back", t.day(), 1);
        due.row("the family did not move", t, 0, 0);
        due.is("off and a day", Due.spring(t, "x0;d"), 2);
        due.row("no move either", t, 0, 0);
    }

    private static void springStops() {
        StorksLet s = Due.town(TownTest.TOWN);
        String[] texts = {"w3", "s31", "x3", "x0", "f3>0", "f0>3", "w0;w9;w1", "d;x0;x0;d"};
        int[] done = {0, 0, 0, 0, 0, 0, 1, 2};
        for (int i = 0; i < texts.length; i++) {
            due.is(texts[i], Due.spring(s, texts[i]), done[i]);
            due.row(texts[i], s, 1, i == 7 ? 1 : 0);
        }
        due.is("what was done stays", s.roof(0, 3), 1);
        due.is("two can be undone", s.count(8), 2);
        due.is("one day", s.count(3), 1);
    }

    private static void springWrong() {
        StorksLet s = Due.town(TownTest.TOWN);
        s.days(4);
        String[] texts = {"q", "x", "f0", "f0>", "s0", "d;", "w12", "d0", "d12", "w0;;w1", "w0,w1", "xx", "w:", "s:", "s0:", "f:", "f0>:", "d:", "f0<1", "s0x", "w0;q", ";", "d;d;x0;w"};
        int[] places = {0, 1, 2, 3, 2, 2, 2, 1, 2, 3, 2, 1, 1, 1, 2, 1, 3, 1, 2, 2, 3, 0, 8};
        for (int i = 0; i < texts.length; i++) {
            due.is("spring " + texts[i], Due.spring(s, texts[i]), -1 - places[i]);
            due.row("the row stays with " + texts[i], s, 8, 1);
            due.is("nothing is done", s.count(3), 4);
            due.is("the text is empty", s.count(11), 0);
        }
        due.is("no wheel", s.roof(0, 3), 0);
        String works = "d;d;d;d;d;d;d;d;d;d;d;d;d;d;d;d;d;d;d;d;d;d;d;d;d;d;d;d;d;d1";
        due.is("60 signs", works.length(), 60);
        due.is("61, could go on", Due.spring(s, works + ";"), -61);
        due.is("61, can't", Due.spring(s, works + "1"), -61);
        due.is("61, wrong earlier", Due.spring(s, works.substring(0, 59) + "0;d"), -60);
        due.is("60 that end too early", Due.spring(s, works.substring(0, 59) + ";"), -61);
        due.is("nothing is done", s.count(3), 4);
        due.is("30 works", Due.spring(s, works), 30);
        due.is("30 days", s.count(3), 34);
        due.is("as one", s.count(8), 2);
    }

    private static void pays() {
        StorksLet s = Due.town(TownTest.TOWN);
        s.days(6);
        due.is("it owes", s.owes(1, 0), 6);
        due.is("pay", s.pay(1, 0, 4), 2);
        due.is("less", s.pay(1, 0, 3), -2);
        due.is("all", s.pay(1, 0, 2), 0);
        due.is("nothing left", s.pay(1, 0, 1), -2);
        due.is("the other lord", s.owes(1, 1), 2);
        due.is("n 0", s.pay(1, 1, 0), -1);
        due.is("n 1000", s.pay(1, 1, 1000), -1);
        due.is("n 999", s.pay(1, 1, 999), -2);
        due.is("n -1", s.pay(1, 1, -1), -1);
        due.is("lord 4", s.pay(1, 4, 1), -1);
        due.is("lord -1", s.pay(1, -1, 1), -1);
        due.is("family 3", s.pay(3, 0, 1), -1);
        due.is("family -1", s.pay(-1, 0, 1), -1);
        due.is("refused ones can't be undone", s.count(8), 3);
        due.is("owes, family 3", s.owes(3, 0), -1);
        due.is("owes, family -1", s.owes(-1, 0), -1);
        due.is("owes, lord 4", s.owes(0, 4), -1);
        due.is("owes, lord -1", s.owes(0, -1), -1);
    }

    private static void lordsAsked() {
        StorksLet s = Due.town(TownTest.TOWN);
        s.days(6);
        due.is("lord 0", s.lord(0), 11);
        due.row("lord 0", s, 2, 2);
        due.is("lord 1", s.lord(1), 2);
        due.row("lord 1", s, 1, 1);
        due.is("lord 3", s.lord(3), 0);
        due.row("lord 3", s, 0, 0);
        due.is("lord 4", s.lord(4), -1);
        due.is("lord -1", s.lord(-1), -1);
        due.row("the row stays", s, 0, 0);
        s.build(1, 4, 3);
        due.is("frogs stay with the lord", s.lord(3), 0);
        due.row("roofs do not", s, 1, 1);
    }

    private static void undoes() {
        StorksLet s = Due.town(TownTest.TOWN);
        due.is("nothing", s.undo(), -1);
        s.day();
        s.days(4);
        s.pay(0, 0, 2);
        due.is("three", s.count(8), 3);
        due.is("pay", s.undo(), 2);
        due.is("owes again", s.owes(0, 0), 4);
        due.nests("as they were", s, -1, 0, 2);
        due.is("days", s.undo(), 1);
        due.nests("of day 0", s, 2, -1, -1);
        due.is("DAY", s.count(3), 1);
        due.is("homes", s.count(5), 1);
        due.is("moves", s.count(6), 1);
        due.is("frogs", s.count(7), 1);
        due.is("the roof knows it", s.roof(2, 5), 0);
        due.is("the other too", s.roof(0, 5), -1);
        due.is("day", s.undo(), 0);
        due.is("DAY 0", s.count(3), 0);
        due.is("no nest", s.count(4), 0);
        due.is("nothing more", s.undo(), -1);
        for (int i = 0; i < 15; i++) {
            s.day();
        }
        due.is("12 are kept", s.count(8), 12);
        for (int left = 11; left >= 0; left--) {
            due.is("left", s.undo(), left);
        }
        due.is("the latest ones", s.count(3), 3);
        due.is("no more", s.undo(), -1);
        s.build(0, 0, 1);
        s.ring(0, 0, 1);
        s.day();
        s.build(0, 0, 2);
        s.build(0, 3, 1);
        s.swear(0, 2);
        s.undo();
        due.is("what is built stays", s.roof(0, 0), 2);
        due.is("wheels too", s.roof(0, 3), 1);
        due.is("and whom they swore", s.family(0, 0), 2);
        s.days(5);
        s.pay(1, 0, 1);
        s.build(0, 3, 0);
        s.build(0, 1, 6);
        s.swear(0, 1);
        s.undo();
        s.undo();
        due.is("with days and pay, too: wheels", s.roof(0, 3), 0);
        due.is("smoke", s.roof(0, 1), 6);
        due.is("oaths", s.family(0, 0), 1);
    }

    private static void undoOfSpring() {
        StorksLet s = Due.town(TownTest.TOWN);
        s.days(4);
        Due.spring(s, "w0;s19;x0;f0>1;d2");
        due.is("undone", s.undo(), 1);
        due.is("wheel", s.roof(0, 3), 0);
        due.is("smoke", s.roof(1, 1), 2);
        due.is("bird", s.family(0, 0), 0);
        due.is("worth", s.worth(1, 0), 6);
        due.nests("nests", s, 2, 0, -1);
        due.is("DAY", s.count(3), 4);
        due.is("a spring that stops", Due.spring(s, "w0;x2"), 1);
        due.is("can be undone", s.undo(), 1);
        due.is("wheel again", s.roof(0, 3), 0);
        Due.spring(s, "x2");
        Due.spring(s, "");
        Due.spring(s, "q");
        due.is("none of which a work was done", s.count(8), 1);
        Due.spring(s, "d");
        s.build(2, 1, 7);
        s.build(2, 0, 8);
        s.swear(2, 0);
        s.undo();
        due.is("smoke as ahead of the spring", s.roof(2, 1), 0);
        due.is("height is left aside", s.roof(2, 0), 8);
        due.is("to whom they belong, too", s.family(2, 0), 2);
        due.is("worth follows", s.worth(2, 0), 17);
    }

    private static void undoForgotten() {
        StorksLet s = Due.town(TownTest.TOWN);
        s.day();
        due.is("an empty town", Due.addTown(s, ""), 0);
        due.is("is no reason", s.count(8), 1);
        due.is("nor a refused one", Due.addTown(s, "q"), -1);
        due.is("kept", s.count(8), 1);
        due.is("nor again(), refused", s.again(0), false);
        due.is("kept", s.count(8), 1);
        Due.addTown(s, "f0");
        due.is("town forgets", s.count(8), 0);
        due.is("refused", s.undo(), -1);
        s.keep(1);
        s.day();
        due.is("again", s.again(1), true);
        due.is("again forgets", s.undo(), -1);
    }
}
