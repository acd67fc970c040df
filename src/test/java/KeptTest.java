/** Promises 46 to 49: kept. */
public final class KeptTest {
    private static final Due due = new Due("KeptTest");

    public static void main(String[] args) {
        keepAndAgain();
        againRefused();
        counted();
        rows();
        due.finish();
    }

    private static void keepAndAgain() {
        StorksLet s = Due.town(TownTest.TOWN);
        due.is("nothing kept", s.again(0), false);
        due.is("keep 0", s.keep(0), true);
        s.days(4);
        due.is("keep 1", s.keep(1), true);
        s.days(6);
        s.pay(0, 0, 3);
        s.build(0, 0, 7);
        s.build(0, 3, 1);
        s.swear(0, 1);
        s.ring(0, 0, 9);
        due.is("again 1", s.again(1), true);
        due.nests("again 1", s, 2, 0, -1);
        due.is("DAY", s.count(3), 4);
        due.is("homes", s.count(5), 3);
        due.is("moves", s.count(6), 2);
        due.is("frogs", s.count(7), 8);
        due.is("owes", s.owes(0, 0), 4);
        due.is("sitter", s.roof(2, 5), 0);
        due.is("no undo", s.count(8), 0);
        due.is("what is built stays", s.roof(0, 0), 7);
        due.is("wheels stay", s.roof(0, 3), 1);
        due.is("oaths stay", s.family(0, 0), 1);
        due.is("strength stays", s.bird(0, 0), 9);
        due.is("again 0", s.again(0), true);
        due.is("DAY 0", s.count(3), 0);
        due.is("no nests", s.count(4), 0);
        due.is("once more", s.again(1), true);
        due.is("DAY 4", s.count(3), 4);
        s.days(3);
        due.is("kept anew", s.keep(1), true);
        s.again(0);
        s.again(1);
        due.is("DAY 7", s.count(3), 7);
        due.is("keep 2", s.keep(2), false);
        due.is("keep -1", s.keep(-1), false);
        due.is("again 2", s.again(2), false);
        due.is("again -1", s.again(-1), false);
    }

    private static void againRefused() {
        String[] lines = {"r111@0", "b1", "f0"};
        for (String line : lines) {
            StorksLet s = Due.town(TownTest.TOWN);
            s.keep(0);
            s.day();
            Due.addTown(s, "q");
            Due.addTown(s, "");
            due.is("nothing came", s.again(0), true);
            s.day();
            Due.addTown(s, line);
            s.day();
            due.is("came since: " + line, s.again(0), false);
            due.is("nothing changes", s.count(3), 2);
            due.is("undo stays", s.count(8), 1);
            due.is("kept anew", s.keep(0), true);
            due.is("again", s.again(0), true);
        }
    }

    private static void counted() {
        StorksLet s = Due.town(TownTest.TOWN);
        s.days(5);
        s.seen(0, 0, 1);
        s.sign(0);
        int[] want = {3, 3, 3, 5, 6, 6, 3, 10, 1, 1, 2, 4};
        for (int what = 0; what < want.length; what++) {
            due.is("count " + what, s.count(what), want[what]);
        }
        due.is("12", s.count(12), -1);
        due.is("-1", s.count(-1), -1);
    }

    private static void rows() {
        StorksLet s = Due.town(TownTest.TOWN);
        due.noSuch("no row yet", () -> s.row(0));
        s.income(0, 7);
        due.row("four", s, 12, 4, 0, 0);
        due.noSuch("row -1", () -> s.row(-1));
        due.noSuch("row 4", () -> s.row(4));
        s.rests();
        due.row("one", s, 7);
        due.noSuch("row 1", () -> s.row(1));
        s.count(0);
        s.worth(0, 0);
        s.build(0, 0, 5);
        s.keep(0);
        s.undo();
        due.row("other calls leave it", s, 7);
    }
}
