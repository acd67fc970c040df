/** Promises 36 to 38: nest by nest. */
public final class NestsTest {
    private static final Due due = new Due("NestsTest");

    public static void main(String[] args) {
        aimTold();
        aimForgotten();
        fewestMoves();
        rings();
        gentleMoves();
        gentleWithRule();
        gentleWayBeyondTheRow();
        gentleOfSix();
        gentleEnd();
        nothingChanges();
        due.finish();
    }

    private static void aimTold() {
        StorksLet s = Due.town(TownTest.TOWN);
        due.is("no aim", s.fewest(), -4);
        due.is("no aim", s.gently(), -4);
        String[] texts = {"01", "0x1", "00-", "0123", "3", "--", "---0", "x", "2", "0-0", "01-;", "-3-"};
        int[] places = {2, 1, 1, 3, 0, 2, 3, 0, 1, 2, 3, 1};
        due.is("aim", Due.aim(s, "2-0"), 3);
        for (int i = 0; i < texts.length; i++) {
            due.is("aim " + texts[i], Due.aim(s, texts[i]), -1 - places[i]);
            due.is("the text is empty", s.count(11), 0);
            due.is("the aim stays", s.fewest(), 2);
            due.row("the aim stays", s, 2, 20);
        }
        due.is("none", Due.aim(s, ""), 0);
        due.is("no aim again", s.fewest(), -4);
        due.is("all none", Due.aim(s, "---"), 3);
        due.is("nothing to do", s.fewest(), 0);
        due.row("nothing to do", s);
        StorksLet t = new StorksLet();
        due.is("no birds, a sign", Due.aim(t, "-"), -1);
        due.is("still no aim", t.fewest(), -4);
        due.is("no birds, no signs: an aim", Due.aim(t, ""), 0);
        due.is("it is reached", t.fewest(), 0);
        due.is("gently too", t.gently(), 0);
    }

    private static void aimForgotten() {
        StorksLet s = Due.town(TownTest.TOWN);
        Due.aim(s, "0--");
        Due.addTown(s, "f0");
        due.is("families do not matter", s.fewest(), 1);
        Due.addTown(s, "r111@0");
        due.is("roofs came", s.fewest(), -4);
        due.is("roofs came", s.gently(), -4);
        Due.aim(s, "3--");
        due.is("told again", s.fewest(), 1);
        Due.addTown(s, "b1");
        due.is("birds came", s.fewest(), -4);
        s.days(3);
        due.is("told for four", Due.aim(s, "3---"), 4);
        StorksLet t = Due.town("r111@0;b1");
        Due.aim(t, "0");
        due.is("one bird", t.fewest(), 1);
        due.is("an empty text for one bird", Due.aim(t, ""), 0);
        due.is("no aim", t.fewest(), -4);
        due.is("from nests as they are", s.fewest(), 3);
    }

    private static void fewestMoves() {
        StorksLet s = Due.town(TownTest.TOWN);
        s.days(4);
        // NESTS: 2, 0, none.
        Object[][] asked = {
            {"20-", new int[] {}},
            {"012", new int[] {11, 0, 22}},
            {"02-", new int[] {1, 12, 0}},
            {"--2", new int[] {9, 19, 22}},
            {"2--", new int[] {19}},
            {"201", new int[] {21}},
            {"-02", new int[] {9, 22}},
            {"1--", new int[] {1, 19}},
            {"021", new int[] {1, 12, 0, 21}},
        };
        for (Object[] a : asked) {
            int[] row = (int[]) a[1];
            Due.aim(s, (String) a[0]);
            due.is("fewest to " + a[0], s.fewest(), row.length);
            due.row("fewest to " + a[0], s, row);
        }
    }

    private static void rings() {
        // Six birds on six roofs, three rings of two: each takes three moves, the first off its nest.
        StorksLet s = Due.town("r900@0;r800@0;r700@0;r600@0;r500@0;r400@0", "b5;b5;b5;b5;b5;b5");
        s.day();
        due.nests("one behind the other", s, 0, 1, 2, 3, 4, 5);
        Due.aim(s, "103254");
        due.is("nine moves", s.fewest(), 9);
        due.row("nine moves", s, 9, 10, 1, 29, 32, 23, 49, 54, 45);
        Due.aim(s, "123450");
        due.is("one ring of six", s.fewest(), 7);
        due.row("one ring of six", s, 9, 50, 45, 34, 23, 12, 1);
        Due.aim(s, "------");
        due.is("all off", s.fewest(), 6);
        due.row("all off", s, 9, 19, 29, 39, 49, 59);
    }

    private static void gentleMoves() {
        StorksLet s = Due.town(TownTest.TOWN);
        s.days(4);
        Due.aim(s, "02-");
        due.is("gently", s.gently(), 3);
        due.row("gently", s, 1, 12, 0);
        Due.aim(s, "--2");
        s.rests();
        due.is("never off", s.gently(), -2);
        due.row("the row stays", s, 4);
        Due.aim(s, "20-");
        due.is("already", s.gently(), 0);
        due.row("already", s);
        s.build(1, 1, 8);
        Due.aim(s, "02-");
        due.is("roof 1 is worth 0 now", s.gently(), -2);
        due.is("fewest does not mind", s.fewest(), 3);
        Due.aim(s, "012");
        due.is("nor can anyone get there", s.gently(), -2);
    }

    private static void gentleWithRule() {
        // With o the roof it starts from is worth something to the bird only while it is there.
        StorksLet s = Due.town("r500@0;r500@0;r500@0;b5;b5");
        s.day();
        due.nests("start", s, 0, 1);
        Due.aim(s, "02");
        Due.rule(s, "(i=1)*(r=2)");
        due.is("bird 1 may go to roof 2", s.gently(), 1);
        due.row("bird 1 may go to roof 2", s, 12);
        Due.aim(s, "10");
        Due.rule(s, "1+o");
        due.is("round by roof 2", s.gently(), 3);
        due.row("round by roof 2", s, 2, 10, 1);
        Due.rule(s, "d");
        due.is("DAY as it is", s.gently(), 3);
        Due.rule(s, "d-1");
        due.is("DAY as it is: 0", s.gently(), -2);
    }

    private static void gentleWayBeyondTheRow() {
        // Five birds on six roofs, each may only go one roof on (round and round): all move on by one, five times.
        StorksLet s = Due.town("r900@0;r800@0;r700@0;r600@0;r500@0;r400@0", "b5;b5;b5;b5;b5");
        s.day();
        due.nests("start", s, 0, 1, 2, 3, 4);
        Due.rule(s, "1");
        Due.aim(s, "10234");
        due.is("two change by the free roof", s.gently(), 3);
        due.row("two change", s, 5, 10, 1);
        Due.aim(s, "10325");
        due.is("two rings", s.gently(), 7);
        Due.rule(s, "(r=i)+(r=i+1)");
        Due.aim(s, "12345");
        due.is("each one on, the last first", s.gently(), 5);
        due.row("each one on", s, 45, 34, 23, 12, 1);
        // Roofs 0 .. 3 in a row and a free one: birds may pass by few roofs, so that the way is long.
        Due.rule(s, "1-(i=0)*(r>1)-(i=1)*(r=3)");
        Due.aim(s, "1024-");
        due.is("never off", s.gently(), -2);
    }

    private static void gentleOfSix() {
        StorksLet s = Due.town("r900@0;r800@0;r700@0;r600@0;r500@0;r400@0", "b5;b5/99;b5/99;b5/99;b5/99;b5");
        s.day();
        due.nests("start", s, 0, -1, -1, -1, -1, 1);
        Due.aim(s, "1----0");
        due.is("two change", s.gently(), 3);
        due.row("two change", s, 2, 50, 1);
        Due.aim(s, "5---43");
        due.is("three moves", s.gently(), 3);
        due.row("three moves", s, 5, 44, 53);
    }

    private static void gentleEnd() {
        StorksLet s = Due.town("r900@0;r800@0;r700@0;r600@0;r500@0;r400@0", "b5;b5;b5;b5;b5");
        // 4051 NESTS in all from none on: the last of three moves are among the first 3000, those of five are not.
        Due.rule(s, "1");
        Due.aim(s, "---54");
        due.is("two moves", s.gently(), 2);
        due.row("two moves", s, 35, 44);
        Due.aim(s, "--543");
        due.is("three moves", s.gently(), 3);
        due.row("three moves", s, 25, 34, 43);
        Due.aim(s, "-0324");
        due.is("the 3000th that is found, the first being these", s.gently(), 4);
        due.row("the 3000th", s, 10, 23, 32, 44);
        s.rests();
        Due.aim(s, "-0325");
        due.is("the 3001st", s.gently(), -3);
        Due.aim(s, "54321");
        due.is("too far", s.gently(), -3);
        due.is("the row stays", s.count(10), 1);
        due.is("fewest finds it", s.fewest(), 5);
        due.row("fewest", s, 5, 14, 23, 32, 41);
        // Only four birds: 1 + 24 + 180 + 480 + 360 = 1045 NESTS, none of them with bird 4.
        Due.rule(s, "i<4");
        Due.aim(s, "----0");
        due.is("it can't be", s.gently(), -2);
        Due.rule(s, "(i<4)*(r<5)+(i=4)*(r=0)");
        Due.aim(s, "1234-");
        due.is("4 moves", s.gently(), 4);
    }

    private static void nothingChanges() {
        StorksLet s = Due.town(TownTest.TOWN);
        s.days(4);
        Due.aim(s, "012");
        s.fewest();
        s.gently();
        due.nests("nests", s, 2, 0, -1);
        due.is("sitter", s.roof(2, 5), 0);
        due.is("undo", s.count(8), 1);
    }
}
