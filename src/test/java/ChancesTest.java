/** Promises 44 and 45: chances. */
public final class ChancesTest {
    private static final Due due = new Due("ChancesTest");

    public static void main(String[] args) {
        chanceAsked();
        safestAsked();
        due.finish();
    }

    private static void chanceAsked() {
        StorksLet s = Due.town(TownTest.TOWN);
        due.is("now", s.chance(2, 0, 5), 0);
        due.row("now", s, 0, 1);
        s.days(4);
        s.chance(2, 0, 0);
        due.row("surely now", s, 1, 1);
        s.chance(2, 0, 5);
        due.row("it may leave", s, 1, 2);
        s.chance(2, 1, 5);
        due.row("any of three", s, 7, 8);
        s.chance(2, 1, 3);
        due.row("1 - 27/1000", s, 973, 1000);
        s.chance(0, 1, 3);
        // ROOF 0 is BIRD 1's: it goes to ROOF 2 if BIRD 0 is away, and no other comes in one day.
        due.row("two must be there, in lowest terms", s, 49, 100);
        s.chance(2, 30, 10);
        due.row("all are away", s, 0, 1);
        s.chance(1, 30, 0);
        due.row("all are there", s, 1, 1);
        due.is("n 31", s.chance(2, 31, 0), -1);
        due.is("n -1", s.chance(2, -1, 0), -1);
        due.is("t 11", s.chance(2, 1, 11), -1);
        due.is("t -1", s.chance(2, 1, -1), -1);
        due.is("roof 3", s.chance(3, 1, 1), -1);
        due.is("roof -1", s.chance(-1, 1, 1), -1);
        due.row("the row stays", s, 1, 1);
        due.nests("nothing changes", s, 2, 0, -1);
        StorksLet t = Due.town("r500@0");
        t.chance(0, 5, 5);
        due.row("no birds", t, 0, 1);
        Due.addTown(t, "b1;b1;b1;b1;b1;b1");
        t.chance(0, 1, 1);
        due.row("six", t, 999999, 1000000);
        t.chance(0, 1, 9);
        due.row("six that hardly come", t, 468559, 1000000);
    }

    private static void safestAsked() {
        StorksLet s = Due.town(TownTest.TOWN);
        due.is("none has a nest: the first", s.safest(0, 5), 0);
        due.row("none has a nest", s, 0, 1);
        s.days(4);
        due.is("bird 2 takes what it wants", s.safest(1, 5), 2);
        due.row("bird 2 takes what it wants", s, 1, 2);
        due.is("0 days: the first of equal ones", s.safest(0, 3), 0);
        due.row("0 days", s, 7, 10);
        due.is("all are there", s.safest(30, 0), 0);
        due.row("all are there", s, 1, 1);
        due.is("one in ten is away", s.safest(0, 1), 0);
        due.row("one in ten is away", s, 9, 10);
        due.is("all are away", s.safest(30, 10), 0);
        due.row("all are away", s, 0, 1);
        due.is("n 31", s.safest(31, 1), -1);
        due.is("n -1", s.safest(-1, 1), -1);
        due.is("t 11", s.safest(1, 11), -1);
        due.is("t -1", s.safest(1, -1), -1);
        due.row("the row stays", s, 0, 1);
        StorksLet t = Due.town("r500@0;b1");
        due.is("no families", t.safest(1, 1), -2);
        due.is("NONE first", t.safest(31, 1), -1);
        Due.addTown(t, "b9;f0;f1;f1");
        due.is("the stronger one's first family", t.safest(2, 4), 1);
        due.row("the stronger", t, 3, 5);
        StorksLet u = Due.town("r500@0;b1;b2;b3;f2;f1;f0");
        due.is("one roof for three", u.safest(3, 5), 0);
        due.row("the strongest", u, 1, 2);
        u.ring(2, 0, 1);
        due.is("then the second", u.safest(3, 3), 1);
        due.row("then the second", u, 7, 10);
        u.chance(0, 3, 3);
        due.row("any of three", u, 973, 1000);
    }
}
