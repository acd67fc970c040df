/** Promises 39 to 43: rings on legs. */
public final class RingsTest {
    private static final Due due = new Due("RingsTest");

    public static void main(String[] args) {
        seenTold();
        strengthsAsked();
        latestAsked();
        absentAsked();
        due.finish();
    }

    private static void seenTold() {
        StorksLet s = Due.town(TownTest.TOWN);
        due.is("nothing", s.forget(), 0);
        due.is("bird 3", s.seen(3, 0, 1), -1);
        due.is("bird -1", s.seen(-1, 0, 1), -1);
        due.is("roof 3", s.seen(0, 3, 1), -1);
        due.is("roof -2", s.seen(0, -2, 1), -1);
        due.is("n 0", s.seen(0, 0, 0), -1);
        due.is("n 61", s.seen(0, 0, 61), -1);
        for (int i = 1; i <= 10; i++) {
            due.is("seen " + i, s.seen(0, -1, 60), i);
        }
        due.is("10 are enough", s.seen(0, -1, 60), -1);
        due.is("all ten must be so", s.strengths(0), 0);
        due.is("all ten must be so", s.latest(0), 99);
        due.is("all ten must be so", s.absent(), 1);
        due.is("count", s.count(9), 10);
        due.is("forget", s.forget(), 10);
        due.is("count", s.count(9), 0);
        due.is("again", s.seen(0, -1, 1), 1);
        Due.addTown(s, "b1");
        due.is("towns do not forget it", s.count(9), 1);
    }

    private static void strengthsAsked() {
        StorksLet s = Due.town(TownTest.TOWN);
        s.days(4);
        due.is("nothing was seen", s.strengths(0), 1022);
        s.seen(0, -1, 1);
        s.seen(2, 2, 1);
        due.is("stronger than 5", s.strengths(2), 960);
        due.is("weaker than 7", s.strengths(0), 2 + 4 + 8 + 16 + 32 + 64);
        due.is("bird 1 does not matter while it is no stronger than roof 2 asks", s.strengths(1) & 62, 62);
        s.seen(1, 2, 1);
        due.is("two on one roof", s.strengths(2), 0);
        due.is("none such", s.strengths(3), -1);
        due.is("none such", s.strengths(-1), -1);
        due.is("strength as it was", s.bird(2, 0), 7);
        StorksLet t = Due.town("r500@0;b5;b3");
        Due.frost(t, "4");
        t.seen(0, 0, 1);
        t.seen(0, 0, 3);
        due.is("frost counts", t.strengths(0), 1022 - 2 - 4 - 8 - 16);
        t.seen(1, -1, 60);
        due.is("60 days on", t.strengths(0), 1022 - 2 - 4 - 8 - 16);
        // From when it is asked for: one day on now is another day than one day on at first.
        StorksLet u = Due.town("r500@0;b5/1");
        u.seen(0, -1, 1);
        due.is("not there yet", u.strengths(0), 1022);
        u.day();
        due.is("there", u.strengths(0), 0);
        due.is("and the rule may tell it", Due.rule(u, "k-5"), 0);
        due.is("only strong ones want the roof", u.strengths(0), 2 + 4 + 8 + 16 + 32);
    }

    private static void latestAsked() {
        StorksLet s = Due.town(TownTest.TOWN);
        s.days(4);
        due.is("nothing was seen", s.latest(2), 99);
        s.seen(2, 2, 1);
        due.is("at once", s.latest(2), 4);
        due.is("the other may come when it likes, but it has a nest", s.latest(0), 99);
        s.forget();
        s.seen(2, 2, 10);
        due.is("nine days more", s.latest(2), 13);
        s.seen(2, -1, 12);
        due.is("not both", s.latest(2), -2);
        s.forget();
        s.seen(2, -1, 60);
        due.is("never", s.latest(2), 99);
        due.is("none such", s.latest(3), -1);
        due.is("none such", s.latest(-1), -1);
        due.is("arrival as it was", s.bird(2, 1), 4);
        StorksLet u = Due.town("r500@0;b5/7");
        u.seen(0, 0, 1);
        due.is("it must have come at first", u.latest(0), 0);
        StorksLet t = Due.town("r500@0;b5/99");
        t.days(60);
        t.days(45);
        t.seen(0, 0, 1);
        due.is("behind day 99 all have come", t.latest(0), 99);
        t.undo();
        due.is("day 60 alone", t.latest(0), 60);
        t.forget();
        t.seen(0, 0, 50);
        due.is("not beyond 99", t.latest(0), 99);
    }

    private static void absentAsked() {
        StorksLet s = Due.town(TownTest.TOWN);
        due.is("nothing was seen", s.absent(), 7);
        due.row("it is so", s, 1);
        s.days(4);
        s.seen(0, -1, 1);
        s.seen(2, 2, 1);
        due.is("0 and 1 may stay away", s.absent(), 3);
        due.row("it is so as it is", s, 1);
        s.forget();
        s.seen(0, 2, 1);
        due.is("only if 2 stays away", s.absent(), 4);
        due.row("it is not so", s, 0);
        s.seen(1, 2, 1);
        due.is("never", s.absent(), 0);
        s.forget();
        s.seen(0, -1, 60);
        due.is("one that stays away has no nest: it leaves it now", s.absent(), 1);
        due.nests("nothing changes", s, 2, 0, -1);
        due.is("arrival as it was", s.bird(0, 1), 0);
        StorksLet t = new StorksLet();
        due.is("no birds", t.absent(), 0);
        due.row("no birds", t, 1);
    }
}
