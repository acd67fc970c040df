import java.io.IOException;

/** The boundaries that promises 28 to 35 name. */
public final class EdgesLordsTest {
    private static Edges edges;

    public static void main(String[] args) throws IOException {
        edges = new Edges("EdgesLordsTest");
        rests();
        ways();
        waysTooMany();
        kindest();
        wheel();
        wheelRefused();
        courts();
        courtsRefused();
        win();
        drive();
        choose();
        edges.finish(28, 35);
    }

    private static void rests() {
        edges.edge(28, "Whether NESTS are at rest: no BIRD would go to another ROOF (as in (2), each by itself): 1, 0; "
            + "the ROW: BIRDS (bits) that would.", d -> {
            StorksLet s = Due.town(Edges.SIX_ROOFS, Edges.SIX_BIRDS);
            d.is("none has a NEST", s.rests(), 0);
            d.row("all would", s, 63);
            s.day();
            d.is("all have", s.rests(), 1);
            d.row("none would", s, 0);
            s.ring(5, 0, 6);
            d.is("the sixth is stronger", s.rests(), 0);
            d.row("the sixth", s, 32);
            d.is("no BIRDS", new StorksLet().rests(), 1);
            StorksLet t = Due.town("r505@0;b5;b5");
            d.is("each by itself: both would go to one ROOF", t.rests(), 0);
            d.row("both", t, 3);
            Due.rule(t, "0");
            d.is("0 is not more than 0", t.rests(), 1);
        });
        edges.edge(Edges.TERMS, "rest (FROST, ARRIVALS left aside; DAY as it is)", d -> {
            StorksLet s = Due.town("r505@0;b5/9");
            Due.frost(s, "9");
            d.is("one that is not there", s.rests(), 0);
            d.is("ways", s.ways(), 1);
            d.row("ways", s, 0);
            Due.rule(s, "d-1");
            d.is("DAY 0", s.rests(), 1);
            d.is("DAY 0", s.ways(), 2);
            s.days(2);
            d.is("DAY 2", s.rests(), 0);
            d.is("DAY 2", s.ways(), 1);
        });
    }

    private static void ways() {
        edges.edge(29, "How many ways of NESTS (a ROOF or none for each BIRD) are at rest", d -> {
            StorksLet s = Due.town("r505@0;b5;b5;b5");
            d.is("any of three", s.ways(), 3);
            d.row("the last", s, -1, -1, 0);
            Due.rule(s, "0");
            d.is("none, too", s.ways(), 4);
            d.row("none", s, -1, -1, -1);
            d.is("no ROOFS", Due.town("b1;b2").ways(), 1);
            StorksLet t = Due.town("r505@0;r505@0");
            d.is("no BIRDS", t.ways(), 1);
            d.row("no BIRDS", t);
        });
        edges.edge(29, "(o of THE RULE by that way)", d -> {
            StorksLet s = Due.town("r505@0;b5");
            Due.rule(s, "1-o");
            s.day();
            d.is("there it is worth 0, elsewhere 1", s.ways(), 1);
            d.row("it would come back, and stays", s, 0);
            Due.addTown(s, "r505@0");
            d.is("with another ROOF it never rests", s.ways(), 0);
            Due.rule(s, "o");
            d.is("it stays on either, and on none", s.ways(), 3);
            d.row("the least", s, -1);
        });
        edges.edge(29, "the ROW: the least row of them (none without).", d -> {
            StorksLet s = Due.town("r505@0;r505@0;b5");
            s.rests();
            Due.rule(s, "10-o*20");
            d.is("none", s.ways(), 0);
            d.row("no numbers", s);
            d.noSuch("no first one", () -> s.row(0));
        });
    }

    private static void waysTooMany() {
        edges.edge(29, "-3: ROOFS and one to the power of BIRDS above 20000.", d -> {
            StorksLet s = Due.town("r101@0;r201@0;r301@0;r401@0", "b1;b1;b1;b1;b1;b1");
            d.is("15625", s.ways(), 360);
            Due.addTown(s, "r501@0");
            d.is("46656", s.ways(), -3);
            StorksLet t = Due.town(Edges.SIX_ROOFS, "b1;b1;b1;b1;b1");
            d.is("16807", t.ways(), 120);
            d.row("the least", t, 0, 1, 2, 3, 4);
            Due.addTown(t, "b1");
            d.is("117649", t.ways(), -3);
            d.row("the ROW stays", t, 0, 1, 2, 3, 4);
        });
        edges.edge(30, "-2: there are none; -3.", d -> {
            StorksLet s = Due.town("r505@0;r505@0;b5;f0");
            Due.rule(s, "10-o*20");
            s.day();
            d.is("none", s.kindest(), -2);
            d.row("the ROW stays", s, 1, 0);
            StorksLet t = Due.town(Edges.SIX_ROOFS, "b1;b1;b1;b1;b1");
            d.is("16807", t.kindest(), 0);
            Due.addTown(t, "b1");
            d.is("117649", t.kindest(), -3);
            d.row("the ROW stays", t, 0, 1, 2, 3, 4);
            Due.rule(t, "10-o*20");
            d.is("-3 is asked ahead of -2, for they are not looked through", t.kindest(), -3);
        });
    }

    private static void kindest() {
        edges.edge(30, "Of these that in which the most FAMILIES live somewhere; of as good ones the least row: how "
            + "many live; the ROW: NESTS.", d -> {
            StorksLet s = Due.town("r505@0;b5;b5;b5;f0;f1;f1;f2;f2");
            d.is("two", s.kindest(), 2);
            d.row("the least of two", s, -1, -1, 0);
            s.swear(4, 1);
            d.is("three", s.kindest(), 3);
            d.row("not the least of all", s, -1, 0, -1);
            d.is("no FAMILIES", Due.town("r505@0;b5").kindest(), 0);
            StorksLet t = Due.town("b5;f0");
            d.is("no ROOFS", t.kindest(), 0);
            d.row("no ROOFS", t, -1);
            StorksLet u = Due.town("r101@0;r201@0;r301@0;r401@0", Edges.SIX_BIRDS, "f0;f0;f0;f0;f5;f5;f5;f5");
            d.is("eight of eight", u.kindest(), 8);
            d.row("eight of eight", u, 0, -1, -1, 1, 2, 3);
        });
    }

    private static void wheel() {
        edges.edge(31, "The ROOF of a LORD on which its WHEEL, put up (or left) there, lets FAMILIES under its ROOFS "
            + "be the most n DAYS (0 .. 60) on", d -> {
            StorksLet s = Due.town("r500@0;r600@1;r400@0;b5;f0;f0");
            Due.rule(s, "h+w*2");
            d.is("7 against 6", s.wheel(0, 1), 0);
            d.row("two instead of none", s, 2, 0);
            d.is("60 DAYS", s.wheel(0, 60), 0);
            d.is("0 DAYS: the first", s.wheel(0, 0), 0);
            d.row("0 DAYS: none", s, 0, 0);
            s.build(2, 3, 1);
            s.build(2, 0, 5);
            d.is("left there: 7 as it is, but the first is as good", s.wheel(0, 1), 0);
            d.row("as many as it is", s, 2, 2);
            s.build(0, 0, 0);
            d.is("put up or left: the first is as good, for the other stays", s.wheel(0, 1), 0);
            d.row("as many as it is", s, 2, 2);
        });
        edges.edge(31, "n DAYS (0 .. 60) on", d -> {
            // In DAY 1 the BIRD comes to ROOF 2; from DAY 2 on it wants ROOFS of LORD 0 with a WHEEL alone.
            StorksLet s = Due.town("r103@0;r203@0;r903@1;b5/1;f0");
            Due.rule(s, "(d=1)*(r=2)+(d>1)*(r<2)*w*(r+1)");
            d.is("1 DAY: nobody is there", s.wheel(0, 1), 0);
            d.row("1 DAY", s, 0, 0);
            d.is("2 DAYS: with the other LORD", s.wheel(0, 2), 0);
            d.row("2 DAYS", s, 0, 0);
            d.is("3 DAYS", s.wheel(0, 3), 0);
            d.row("3 DAYS", s, 1, 0);
            Due.rule(s, "(d=1)*(r=2)+(d>1)*(r=1)*(w*5)");
            d.is("3 DAYS: the other ROOF", s.wheel(0, 3), 1);
            d.row("3 DAYS", s, 1, 0);
            d.is("LORD 1 has it at first", s.wheel(1, 2), 2);
            d.row("2 DAYS", s, 1, 1);
            d.is("and keeps it", s.wheel(1, 60), 2);
            d.row("60 DAYS", s, 1, 1);
            d.is("1 DAY: none gains", s.courts(1, 12), 1);
            d.row("1 DAY", s, 1, 0);
            d.is("3 DAYS: LORD 0 gains, by ROOF 1", s.courts(3, 12), 2);
            d.row("3 DAYS", s, 1, 2);
        });
        edges.edge(31, "of equal ones the first: it; the ROW: how many, how many as it is.", d -> {
            StorksLet s = Due.town(Edges.SIX_ROOFS, Edges.SIX_BIRDS, "f0;f1;f2;f3;f4;f5;f0;f5");
            d.is("LORD 1", s.wheel(1, 1), 4);
            d.row("three as it is", s, 3, 3);
            Due.rule(s, "1+w*9");
            s.ring(0, 0, 9);
            d.is("the strong one with two FAMILIES is drawn to the first of LORD 1", s.wheel(1, 1), 4);
            d.row("the other comes to ROOF 0", s, 4, 3);
            for (int roof = 4; roof <= 5; roof++) {
                StorksLet t = Due.town("r502@0;r502@0;r502@0;r502@0;r502@1;r502@1", "b5;f0");
                t.build(roof, 2, 9);
                d.is("neither WHEEL does anything", t.wheel(1, 1), 4);
                d.row("ROOF " + roof + " as it is", t, 1, 1);
                d.is("nobody gains", t.courts(1, 12), 1);
                d.row("nobody gains", t, 1, 0);
            }
        });
    }

    private static void wheelRefused() {
        edges.edge(31, "-2: it has no ROOF; NONE: others.", d -> {
            StorksLet s = Due.town("r505@1;b5;f0");
            s.rests();
            for (int lord : new int[] {0, 2, 3}) {
                d.is("LORD " + lord, s.wheel(lord, 1), -2);
                d.is("LORD " + lord + ", n 61", s.wheel(lord, 61), -1);
            }
            d.is("no ROOFS", new StorksLet().wheel(0, 1), -2);
            for (int n : Due.outside(0, 60)) {
                d.is("n " + n, s.wheel(1, n), -1);
            }
            for (int lord : Due.outside(0, 3)) {
                d.is("LORD " + lord, s.wheel(lord, 1), -1);
            }
            d.row("the ROW stays", s, 1);
        });
    }

    private static void courts() {
        edges.edge(32, "till in a whole round none does: how many rounds (that last one, too); "
            + "the ROW: 1 if there was such a last one, else 0; ROOFS (bits) with a WHEEL then.", d -> {
                // WHEELS go up on ROOF 1 (8), 4 (9), 2 (10), 5 (11): ahead of that ROOF 5 has most WORTH, 7.
                StorksLet s = Due.town("r200@0;r400@0;r600@0;r300@1;r500@1;r700@1", "b5;f0");
                Due.rule(s, "h+w*4");
                int[][] rows = {{0, 0}, {0, 18}, {0, 54}, {1, 54}};
                for (int m = 0; m <= 12; m++) {
                    d.is("rounds of " + m, s.courts(1, m), Math.min(3, m));
                    d.row("rounds of " + m, s, rows[Math.min(3, m)]);
                }
                d.is("20 DAYS", s.courts(20, 12), 3);
                d.row("20 DAYS", s, 1, 54);
                d.is("no ROOFS: a round in which none does", new StorksLet().courts(1, 1), 1);
                StorksLet t = Due.town("r505w@0;r505w@0;r505w@0;r505w@0;r505w@0;r505w@3", "b5;f0");
                d.is("each ROOF has one", t.courts(1, 12), 1);
                d.row("each ROOF has one", t, 1, 63);
                StorksLet u = Due.town("r505@1;r505@1;r505@1;r505@1;r505@1;r505@1");
                d.is("none has one", u.courts(1, 12), 1);
                d.row("none has one", u, 1, 0);
            });
        edges.edge(32, "LORDS by numbers, round by round", d -> {
            // Of two that could win the only BIRD, the later number answers the earlier one.
            StorksLet s = Due.town("r400@3;r500@0;r600@2;b5;f0");
            Due.rule(s, "h+w*9");
            d.is("LORD 0: 14, LORD 2: 15, LORD 3: 13", s.courts(1, 1), 1);
            d.row("LORD 3 would not win", s, 0, 6);
        });
        edges.edge(32, "(m at most, 0 .. 12), each puts a WHEEL where wheel() tells for n DAYS (1 .. 20), if it has more FAMILIES so than as it is then, "
            + "and the ROOF has none", d -> {
            StorksLet s = Due.town("r500@0;r400@1;b5;f0");
            Due.rule(s, "h+w");
            d.is("one has all, the other can be as good only", s.courts(1, 12), 1);
            d.row("none does", s, 1, 0);
            s.build(1, 3, 1);
            s.build(1, 0, 5);
            d.is("the other wins by the WHEEL it has", s.courts(1, 12), 2);
            d.row("then they are equal, and the first wins", s, 1, 3);
            StorksLet t = Due.town("r500@0;r400@1;b5/19;f0");
            Due.rule(t, "h+w*2");
            d.is("19 DAYS: it is not there", t.courts(19, 12), 1);
            d.row("19 DAYS", t, 1, 0);
            d.is("20 DAYS: 5 against 6, then 7", t.courts(20, 12), 3);
            d.row("20 DAYS", t, 1, 3);
        });
    }

    private static void courtsRefused() {
        edges.edge(32, "Nothing changes. NONE: others.", d -> {
            StorksLet s = Due.town("r500@0;r600@1;b5;f0");
            Due.rule(s, "h+w*5");
            s.courts(20, 12);
            d.is("no WHEEL", s.roof(0, 3) + s.roof(1, 3), 0);
            s.rests();
            for (int n : Due.outside(1, 20)) {
                d.is("n " + n, s.courts(n, 1), -1);
            }
            for (int m : Due.outside(0, 12)) {
                d.is("m " + m, s.courts(1, m), -1);
            }
            d.row("the ROW stays", s, 1);
        });
    }

    private static void win() {
        edges.edge(33, "The least VIEW (0 .. 9) of a ROOF with which a BIRD has its NEST there n DAYS (1 .. 60) on: it.", d -> {
            for (int height = 0; height <= 9; height++) {
                StorksLet s = Due.town("r00" + height + "@0;r009@0;b5/59");
                Due.rule(s, "v+r*" + height);
                d.is("ROOF 0 against " + (9 + height), s.win(0, 0, 60), height == 0 ? 9 : -2);
                Due.rule(s, "v-9+" + height);
                s.build(1, 2, 0);
                d.is("more than 0", s.win(0, 0, 60), height == 0 ? -2 : 10 - height);
                d.is("its VIEW stays", s.roof(0, 2), height);
            }
            StorksLet s = Due.town("r000@0;r000@0;r000@0;b5");
            Due.rule(s, "1+v");
            d.is("any", s.win(0, 0, 1), 0);
            d.is("more ROOFS than BIRDS", s.win(0, 2, 1), 1);
            StorksLet t = Due.town("r000@0;b5;b5;b6");
            d.is("fewer", t.win(2, 0, 1), 1);
        });
        edges.edge(33, "-2: with none; NONE: others.", d -> {
            StorksLet s = Due.town("r505@0;r505@0;r505@0;b5/59;b6/99");
            s.rests();
            d.is("59 DAYS: it is not there", s.win(0, 0, 59), -2);
            d.is("60 DAYS", s.win(0, 0, 60), 5);
            for (int n : Due.outside(1, 60)) {
                d.is("n " + n, s.win(0, 0, n), -1);
            }
            for (int n : Due.outside(0, 2)) {
                d.is("ROOF " + n, s.win(0, n, 60), -1);
            }
            for (int n : Due.outside(0, 1)) {
                d.is("BIRD " + n, s.win(n, 0, 60), -1);
            }
            d.row("no ROW of its own", s, 3);
        });
    }

    private static void drive() {
        edges.edge(34, "The least SMOKE (0 .. 9) of the ROOF where a BIRD has its NEST with which it has it elsewhere, or none, "
            + "n DAYS (1 .. 60) on: it; "
            + "the ROW: its NEST then (NONE).", d -> {
                for (int view = 0; view <= 8; view++) {
                    StorksLet s = Due.town("r009@0;r00" + view + "@0;b5");
                    s.day();
                    d.is("9 - SMOKE below " + view, s.drive(0, 1), view == 0 ? -2 : 10 - view);
                    d.row("goes there", s, view == 0 ? new int[] {0, 0} : new int[] {1});
                    d.is("its SMOKE stays", s.roof(0, 1), 0);
                }
                StorksLet s = Due.town("r505@0;b5;b6/60");
                s.day();
                d.is("driven off in DAY 60", s.drive(0, 60), 0);
                d.row("to none", s, -1);
                d.is("59 DAYS", s.drive(0, 59), -2);
            });
        edges.edge(34, "-2: with none; -3: it has no NEST; NONE: others.", d -> {
            StorksLet s = Due.town("r505@0;r101@0;r101@0;b5;b6/99");
            s.day();
            s.later(0, 0);
            d.is("no NEST", s.drive(1, 1), -3);
            d.is("no NEST, n 61", s.drive(1, 61), -1);
            Due.rule(s, "5");
            d.is("SMOKE is nothing to it", s.drive(0, 60), -2);
            for (int n : Due.outside(1, 60)) {
                d.is("n " + n, s.drive(0, n), -1);
            }
            for (int n : Due.outside(0, 1)) {
                d.is("BIRD " + n, s.drive(n, 1), -1);
            }
            d.row("the ROW stays", s, 0, -1);
        });
    }

    private static void choose() {
        edges.edge(35, "so that it lives somewhere on the most of the next n DAYS (1 .. 60); of as good ones its own, then the "
            + "first: it; "
            + "the ROW: on how many, how many FROGS it comes to owe so.", d -> {
                StorksLet s = Due.town("r505@0;r505@0;r505@0;r505@0;b5/1;b5;b5;b5/2;f0*9;f2;f3*0");
                d.is("the first of two", s.choose(0, 60), 1);
                d.row("all of 60", s, 60, 540);
                d.is("its own of two", s.choose(1, 60), 2);
                d.row("its own", s, 60, 60);
                d.is("no RENT", s.choose(2, 2), 1);
                d.row("no RENT", s, 2, 0);
                d.is("one DAY", s.choose(2, 1), 1);
                s.ring(1, 1, 99);
                s.ring(2, 1, 99);
                d.is("in one DAY none is there: its own", s.choose(2, 1), 3);
                d.row("none", s, 0, 0);
                d.is("from DAY 1 on", s.choose(2, 60), 0);
                d.row("59", s, 59, 0);
                d.is("it belongs to whom it did", s.family(2, 0), 3);
            });
        edges.edge(35, "The BIRD a FAMILY would best belong to", d -> {
            StorksLet s = Due.town("r505@0;b5;b6;f0;f0;f0*2");
            d.is("more FAMILIES than BIRDS", s.choose(2, 60), 1);
            d.row("more FAMILIES than BIRDS", s, 60, 120);
            d.is("one BIRD", Due.town("r505@0;r505@0;b5;f0").choose(0, 1), 0);
        });
        edges.edge(35, "NONE: others.", d -> {
            StorksLet s = Due.town("r505@0;b5;b5;f0;f1");
            s.rests();
            for (int n : Due.outside(1, 60)) {
                d.is("n " + n, s.choose(0, n), -1);
            }
            for (int n : Due.outside(0, 1)) {
                d.is("FAMILY " + n, s.choose(n, 1), -1);
            }
            d.row("the ROW stays", s, 3);
        });
    }
}
