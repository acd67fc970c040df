import java.io.IOException;

/** The boundaries that promises 15 to 27 name. */
public final class EdgesDaysTest {
    private static Edges edges;

    public static void main(String[] args) throws IOException {
        edges = new Edges("EdgesDaysTest");
        day();
        days();
        springWorks();
        springStops();
        springText();
        pay();
        owesAndLord();
        undoHowMany();
        undoOfWhat();
        undoForgotten();
        later();
        calm();
        moves();
        income();
        homeless();
        bears();
        edges.finish(15, 27);
    }

    /** A ROOF of LORD 1 and a FAMILY of RENT 9 that has lived on it for some DAYS. */
    private static StorksLet debtor(int days) {
        StorksLet s = Due.town("r505@1;b5;f0*9;f0*0");
        for (int left = days; left > 0; left -= 60) {
            s.days(Math.min(60, left));
        }
        return s;
    }

    /** FAMILIES on all of six ROOFS, with all of eight. */
    private static StorksLet fullTown() {
        StorksLet s = Due.town(Edges.SIX_ROOFS, Edges.SIX_BIRDS, "f0;f1;f2;f3;f4;f5;f0;f5");
        s.day();
        return s;
    }

    private static void day() {
        edges.edge(15, "how many BIRDS have another NEST than ahead (none is one, too)", d -> {
            StorksLet s = Due.town("r505@0;b5;b6/1;b7/9");
            d.is("one that had none", s.day(), 1);
            d.is("one that has none then, one that had none", s.day(), 2);
            d.is("none has another", s.day(), 0);
            Due.frost(s, "9");
            d.is("one that has none then", s.day(), 1);
            d.is("no BIRDS", new StorksLet().day(), 0);
            d.is("all six", Due.town(Edges.SIX_ROOFS, Edges.SIX_BIRDS).day(), 6);
        });
        edges.edge(15, "the ROW: how many FAMILIES moved (MOVES), how many live nowhere then.", d -> {
            StorksLet s = Due.town("r505@0;b5;b5;f0;f0;f1");
            s.day();
            d.row("two moved", s, 2, 1);
            s.day();
            d.row("none moved", s, 0, 1);
            Due.frost(s, "9");
            s.day();
            d.row("nowhere is no MOVE", s, 0, 3);
            StorksLet t = fullTown();
            d.row("eight moved", t, 8, 0);
        });
    }

    private static void days() {
        edges.edge(16, "n DAYS (0 .. 60) go by: how many MOVES in all", d -> {
            StorksLet s = Due.town("r505@0;b5;f0*7");
            d.is("0", s.days(0), 0);
            d.row("0", s, 0, 1);
            d.is("DAY 0", s.count(3), 0);
            Due.frost(s, "09");
            d.is("60", s.days(60), 30);
            d.row("60", s, 210, 1);
            d.is("DAY 60", s.count(3), 60);
            d.is("1", s.days(1), 1);
            d.row("1", s, 7, 0);
        });
        edges.edge(16, "NONE: another n.", d -> {
            StorksLet s = Due.town("r505@0;b5;f0*7");
            s.days(2);
            for (int n : Due.outside(0, 60)) {
                d.is("n " + n, s.days(n), -1);
            }
            d.is("DAY", s.count(3), 2);
            d.row("the ROW stays", s, 14, 0);
        });
    }

    private static void springWorks() {
        edges.edge(17, "THE TEXT tells A SPRING (an empty one: nothing)", d -> {
            StorksLet s = fullTown();
            d.is("an empty one", Due.spring(s, ""), 0);
            d.row("an empty one", s, 0, 0);
            d.is("nothing to undo of it", s.count(8), 1);
            d.is("DAY", s.count(3), 1);
        });
        edges.edge(17, "its WHEEL is put up, or taken down if there is one", d -> {
            StorksLet s = Due.town("r505@0;r505w@0");
            Due.rule(s, "w");
            d.is("each once", Due.spring(s, "w0;w1"), 2);
            d.is("put up", s.roof(0, 3), 1);
            d.is("taken down", s.roof(1, 3), 0);
            d.is("twice", Due.spring(s, "w0;w0"), 2);
            d.is("as ahead", s.roof(0, 3), 1);
        });
        edges.edge(17, "s, a ROOF, a digit: SMOKE is that", d -> {
            StorksLet s = Due.town("r555@0;r555@0");
            d.is("0 and 9", Due.spring(s, "s00;s19"), 2);
            d.is("0", s.roof(0, 1), 0);
            d.is("9", s.roof(1, 1), 9);
        });
        edges.edge(17, "x, a BIRD: it is driven off its NEST", d -> {
            StorksLet s = fullTown();
            d.is("the sixth", Due.spring(s, "x5"), 1);
            d.nests("the sixth", s, 0, 1, 2, 3, 4, -1);
            d.is("its ROOF", s.roof(5, 5), -1);
            d.is("FAMILIES stay till a DAY goes by", s.roof(5, 6), 2);
            d.row("no MOVES", s, 0, 0);
        });
        edges.edge(17, "f, a FAMILY, >, a BIRD: swear()", d -> {
            StorksLet s = fullTown();
            d.is("the eighth to the first", Due.spring(s, "f7>0"), 1);
            d.is("its BIRD", s.family(7, 0), 0);
            d.is("to its own", Due.spring(s, "f7>0"), 1);
        });
        edges.edge(17, "d, perhaps a digit 1 .. 9: so many DAYS (1) go by", d -> {
            StorksLet s = fullTown();
            int[] daysThen = {2, 3, 12};
            String[] texts = {"d", "d1", "d9"};
            for (int i = 0; i < texts.length; i++) {
                d.is(texts[i], Due.spring(s, texts[i]), 1);
                d.is(texts[i], s.count(3), daysThen[i]);
            }
            d.is("d0", Due.spring(s, "d0"), -2);
            d.is("d10", Due.spring(s, "d10"), -3);
        });
    }

    private static void springStops() {
        edges.edge(17, "(ROOFS, BIRDS, FAMILIES are digits, whether there or not)", d -> {
            StorksLet s = new StorksLet();
            for (String text : new String[] {"w9", "s99", "x9", "f9>9", "w0", "s00", "x0", "f0>0"}) {
                d.is(text + " can stand", Due.spring(s, text), 0);
                d.row(text + " can't be done", s, 1, 0);
            }
        });
        edges.edge(17, "till one can't be (none such; x: no NEST): how many were done; the ROW: 1 if one could not be, "
            + "else 0; MOVES in them.", d -> {
            StorksLet s = fullTown();
            s.ring(0, 1, 99);
            String[] stops = {"w6", "s60", "x6", "f8>0", "f0>6", "x0"};
            for (int i = 0; i < stops.length; i++) {
                d.is("x0, then " + stops[i], Due.spring(s, "x0;" + stops[i] + ";w0"), 1);
                d.row("x0, then " + stops[i], s, 1, 0);
                s.undo();
            }
            StorksLet more = Due.town("r505@0;r505@0;r505@0;b5;f0");
            StorksLet fewer = Due.town("r505@0;b5;b5;b6;f0;f2");
            more.day();
            fewer.day();
            d.is("no such BIRD, but a ROOF", Due.spring(more, "x1"), 0);
            d.is("no such BIRD, but a ROOF", Due.spring(more, "f0>1"), 0);
            d.is("a BIRD of no ROOF's number", Due.spring(fewer, "x2;f0>2"), 2);
            d.is("it belongs to that", fewer.family(0, 0), 2);
            d.is("no such ROOF, but a BIRD", Due.spring(fewer, "w1"), 0);
            d.is("no such ROOF, but a BIRD", Due.spring(fewer, "s11"), 0);
            d.is("the WORK behind is not done", s.roof(0, 3), 0);
            d.is("all are done", Due.spring(s, "x0;w0"), 2);
            d.row("all are done", s, 0, 0);
            d.is("a DAY, then no NEST", Due.spring(s, "s09;d;x0;d"), 2);
            d.row("six BIRDS keep their NESTS but the first", s, 1, 0);
            s.ring(0, 1, 0);
            d.is("it comes back", Due.spring(s, "s00;d"), 2);
            d.row("its two FAMILIES move", s, 0, 2);
        });
    }

    private static void springText() {
        edges.edge(17, "-1 - p: the sign at p can't stand there (as town(); 60 signs); nothing is done then.", d -> {
            StorksLet s = fullTown();
            String[] ends = {"w", "s", "s0", "x", "f", "f0", "f0>", "d;", "w0;", "s00;", "x0;", "f0>0;", "d9;"};
            for (String text : ends) {
                d.is(text + " ends too early", Due.spring(s, text), -1 - text.length());
            }
            String[] wrong = {"r", "wx", "s:", "s0/", "x-", "f>", "f00", "f0>-", "dd", "d:", "w0w", "w0;;", ";", " "};
            int[] places = {0, 1, 1, 2, 1, 1, 2, 3, 1, 1, 2, 3, 0, 0};
            for (int i = 0; i < wrong.length; i++) {
                d.is(wrong[i], Due.spring(s, wrong[i]), -1 - places[i]);
                d.is("d;" + wrong[i], Due.spring(s, "d;" + wrong[i]), -3 - places[i]);
            }
            String sixty = "w0;".repeat(19) + "x5;";
            d.is("60 that end too early", Due.spring(s, sixty), -61);
            d.is("61: could go on", Due.spring(s, sixty + "d"), -61);
            String whole = "w0;".repeat(19) + "d;d";
            d.is("61: could end", Due.spring(s, whole + ";"), -61);
            d.is("80: could end", Due.spring(s, whole + ";".repeat(20)), -61);
            d.is("80, wrong at 59", Due.spring(s, "w0;".repeat(19) + "d;" + "q".repeat(21)), -60);
            d.is("nothing is done", s.roof(0, 3), 0);
            d.is("DAY", s.count(3), 1);
            d.is("nothing to undo", s.count(8), 1);
            d.row("the ROW stays", s, 8, 0);
            d.is("60 signs", Due.spring(s, whole), 21);
            d.is("done", s.roof(0, 3), 1);
            d.is("30 WORKS", Due.spring(s, "d;".repeat(29) + "d9"), 30);
            d.is("DAY", s.count(3), 3 + 29 + 9);
            d.is("20 times 9 DAYS", Due.spring(s, "d9;".repeat(19) + "d9"), 20);
            d.is("DAY", s.count(3), 41 + 180);
        });
    }

    private static void pay() {
        edges.edge(18, "A FAMILY pays n FROGS (1 .. 999) to a LORD: how many it owes that one then.", d -> {
            StorksLet s = debtor(222);
            d.is("1", s.pay(0, 1, 1), 1997);
            d.is("999", s.pay(0, 1, 999), 998);
            d.is("all", s.pay(0, 1, 998), 0);
        });
        edges.edge(18, "-2: it owes less; NONE: others.", d -> {
            StorksLet s = debtor(222);
            d.is("1000", s.pay(0, 1, 1000), -1);
            for (int n : Due.outside(1, 999)) {
                d.is("n " + n, s.pay(0, 1, n), -1);
            }
            d.is("nothing owed", s.pay(1, 1, 1), -2);
            d.is("nothing owed to another", s.pay(0, 0, 1), -2);
            for (int n : Due.outside(0, 1)) {
                d.is("FAMILY " + n, s.pay(n, 1, 1), -1);
            }
            for (int n : Due.outside(0, 3)) {
                d.is("LORD " + n, s.pay(0, n, 1), -1);
            }
            s.pay(0, 1, 999);
            s.pay(0, 1, 990);
            d.is("one less than asked", s.pay(0, 1, 10), -2);
            d.is("it owes that still", s.owes(0, 1), 9);
            d.is("just that", s.pay(0, 1, 9), 0);
        });
    }

    private static void owesAndLord() {
        edges.edge(19, "FROGS a FAMILY owes a LORD. NONE: none such.", d -> {
            StorksLet s = debtor(2);
            d.is("owes", s.owes(0, 1), 18);
            d.is("owes nothing", s.owes(1, 3), 0);
            for (int n : Due.outside(0, 1)) {
                d.is("FAMILY " + n, s.owes(n, 1), -1);
            }
            for (int n : Due.outside(0, 3)) {
                d.is("LORD " + n, s.owes(0, n), -1);
            }
        });
        edges.edge(20, "FROGS all owe a LORD; the ROW: on how many ROOFS of its there is a NEST, how many FAMILIES "
            + "live under them.", d -> {
            StorksLet s = fullTown();
            d.is("LORD 0", s.lord(0), 5);
            d.row("LORD 0", s, 4, 5);
            d.is("LORD 1", s.lord(1), 3);
            d.row("LORD 1", s, 2, 3);
            d.is("no ROOFS", s.lord(2), 0);
            d.row("no ROOFS", s, 0, 0);
            s.ring(5, 1, 99);
            Due.spring(s, "x5;d");
            s.lord(1);
            d.row("a ROOF without a NEST", s, 1, 1);
            StorksLet t = Due.town("r101@0;r101@0;r909@0;b5;f0;f0");
            t.day();
            t.lord(0);
            d.row("the last of three ROOFS", t, 1, 2);
            StorksLet u = Due.town("r101@0;b5;b5;b6;f0;f2");
            u.day();
            u.lord(0);
            d.row("the last of three BIRDS", u, 1, 1);
        });
        edges.edge(20, "NONE: another LORD.", d -> {
            StorksLet s = fullTown();
            for (int n : Due.outside(0, 3)) {
                d.is("LORD " + n, s.lord(n), -1);
            }
            d.row("the ROW stays", s, 8, 0);
            d.is("LORD 3", s.lord(3), 0);
        });
    }

    private static void undoHowMany() {
        edges.edge(21, "(of 12 that are kept, the latest ones;", d -> {
            StorksLet s = new StorksLet();
            for (int i = 1; i <= 40; i++) {
                s.day();
                d.is("kept", s.count(8), Math.min(12, i));
            }
            d.is("none was done: the oldest stays", Due.spring(s, "x0"), 0);
            for (int left = 11; left >= 0; left--) {
                d.is("left", s.undo(), left);
                d.is("DAY", s.count(3), 28 + left);
            }
            d.is("no more", s.undo(), -1);
            s.days(7);
            d.is("one again", s.undo(), 0);
            d.is("DAY", s.count(3), 28);
        });
        edges.edge(21, "such as were not refused; days() of 1 and more, spring() of which one WORK was done, as one)", d -> {
            StorksLet s = debtor(1);
            d.is("one", s.count(8), 1);
            s.days(0);
            s.days(61);
            s.days(-1);
            s.pay(0, 1, 10);
            s.pay(0, 1, 0);
            Due.spring(s, "");
            Due.spring(s, "d0");
            Due.spring(s, "w1;d");
            s.days(0);
            d.is("these are no more", s.count(8), 1);
            Due.spring(s, "d;w1;d");
            d.is("one WORK", s.count(8), 2);
            s.days(60);
            d.is("60 DAYS", s.count(8), 3);
            s.pay(0, 1, 1);
            d.is("a FROG", s.count(8), 4);
            int[] daysThen = {62, 2, 1, 0};
            for (int i = 0; i < daysThen.length; i++) {
                d.is("undone", s.undo(), 3 - i);
                d.is("DAY", s.count(3), daysThen[i]);
            }
        });
        edges.edge(21, "Refused: none.", d -> {
            d.is("a new object", new StorksLet().undo(), -1);
            StorksLet s = debtor(1);
            d.is("one", s.undo(), 0);
            d.is("none", s.undo(), -1);
            d.is("DAY 0", s.count(3), 0);
        });
    }

    private static void undoOfWhat() {
        edges.edge(21, "(DAY, NESTS, where FAMILIES live, MOVES, FROGS, and of spring() WHEELS, SMOKE, to whom they "
            + "belong are as ahead of it)", d -> {
            StorksLet s = Due.town("r505@0;r404@1;b5;b6/2;f0*3;f1*4");
            s.days(4);
            s.pay(0, 0, 2);
            // FAMILY 0: two DAYS under LORD 0, one nowhere, one under LORD 1; FAMILY 1: two DAYS under LORD 0.
            for (String works : new String[] {"x0;x1;d9", "s09;s19;w0;w1;d9", "f0>1;f1>0;d9"}) {
                Due.spring(s, works);
                s.undo();
                d.is("DAY", s.count(3), 4);
                d.nests("NESTS", s, 1, 0);
                d.is("where they live", s.family(0, 2) * 10 + s.family(1, 2), 10);
                d.is("MOVES", s.family(0, 3) * 10 + s.family(1, 3), 21);
                d.is("FROGS", s.owes(0, 0) * 100 + s.owes(0, 1) * 10 + s.owes(1, 0), 438);
                d.is("WHEELS", s.roof(0, 3) + s.roof(1, 3), 0);
                d.is("SMOKE", s.roof(0, 1) + s.roof(1, 1), 0);
                d.is("to whom", s.family(0, 0) * 10 + s.family(1, 0), 1);
                d.is("the BIRD on ROOF 0", s.roof(0, 5), 1);
            }
        });
        edges.edge(21, "and of spring() WHEELS, SMOKE, to whom they belong are as ahead of it", d -> {
            StorksLet s = fullTown();
            Due.spring(s, "w0;w5;s09;s59;f0>5;f6>1;f7>2");
            s.undo();
            d.is("WHEELS", s.roof(0, 3) + s.roof(5, 3), 0);
            d.is("SMOKE", s.roof(0, 1) + s.roof(5, 1), 0);
            int[] birds = {0, 1, 2, 3, 4, 5, 0, 5};
            for (int f = 0; f < birds.length; f++) {
                d.is("FAMILY " + f, s.family(f, 0), birds[f]);
            }
            StorksLet t = Due.town("r505@0;b5;b5;b6");
            t.days(2);
            Due.spring(t, "x2;d");
            t.undo();
            d.nests("more BIRDS than ROOFS", t, -1, -1, 0);
            d.is("whose NEST it is", t.roof(0, 5), 2);
            t.day();
            d.nests("it is still strong", t, -1, -1, 0);
        });
        edges.edge(21, "The latest day(), days(), spring(), pay()", d -> {
            StorksLet s = Due.town("r505@0;r404@1;b5;f0*3");
            s.day();
            s.build(0, 3, 1);
            s.build(0, 1, 2);
            s.ring(0, 0, 7);
            Due.rule(s, "k");
            s.undo();
            d.is("WHEELS that were built stay with day()", s.roof(0, 3), 1);
            d.is("SMOKE", s.roof(0, 1), 2);
            d.is("STRENGTH", s.bird(0, 0), 7);
            d.is("THE RULE", s.worth(0, 0), 7);
        });
    }

    private static void undoForgotten() {
        edges.edge(21, "(town() and again() forget them, if they are not refused; an empty town() does not.)", d -> {
            StorksLet s = debtor(1);
            Due.addTown(s, "");
            Due.addTown(s, "f9");
            Due.addTown(s, "b1;q");
            s.again(0);
            s.again(2);
            s.keep(0);
            d.is("kept", s.count(8), 1);
            s.again(0);
            d.is("again() forgets", s.count(8), 0);
            s.day();
            Due.addTown(s, "b1");
            d.is("town() forgets", s.count(8), 0);
            s.day();
            s.again(0);
            d.is("a refused again() does not", s.count(8), 1);
            d.is("undone", s.undo(), 0);
        });
    }

    private static void later() {
        edges.edge(22, "The NEST of a BIRD n DAYS (0 .. 60) on (NONE); the ROW: NESTS.", d -> {
            StorksLet s = Due.town("r505@0;b5/59;b6/60");
            d.is("now", s.later(0, 0), -1);
            d.row("now", s, -1, -1);
            d.is("59", s.later(0, 59), -1);
            d.is("60: DAY 59 has gone by", s.later(0, 60), 0);
            d.row("60", s, 0, -1);
        });
        edges.edge(22, "-2: others.", d -> {
            StorksLet s = Due.town("r505@0;r505@0;r505@0;b5/59;b6/60");
            s.later(0, 60);
            for (int n : Due.outside(0, 60)) {
                d.is("n " + n, s.later(0, n), -2);
            }
            for (int bird : Due.outside(0, 1)) {
                d.is("BIRD " + bird, s.later(bird, 1), -2);
            }
            d.row("the ROW stays", s, 0, -1);
        });
    }

    private static void calm() {
        edges.edge(23, "After how many DAYS (0 .. 60) first NESTS are such as one DAY more leaves them: how many; the "
            + "ROW: NESTS.", d -> {
            StorksLet s = Due.town("r505@0;r505@0;b5");
            d.is("one", s.calm(), 1);
            d.row("one", s, 0);
            s.day();
            d.is("now", s.calm(), 0);
            d.row("now", s, 0);
            Due.rule(s, "(d<61)*(2-o)");
            d.is("from DAY 1 on 60", s.calm(), 60);
            d.row("60", s, 0);
            StorksLet t = new StorksLet();
            d.is("no BIRDS", t.calm(), 0);
            d.row("no BIRDS", t);
        });
        edges.edge(23, "-2: not in these.", d -> {
            StorksLet s = Due.town("r505@0;r505@0;b5");
            Due.rule(s, "(d<61)*(2-o)");
            s.rests();
            d.is("61", s.calm(), -2);
            d.row("the ROW stays", s, 1);
            Due.frost(s, "5");
            d.is("in the cold none has a NEST", s.calm(), 0);
        });
    }

    private static void moves() {
        edges.edge(24, "MOVES of a FAMILY in the next n DAYS (0 .. 60); the ROW: on how many of these DAYS it lives "
            + "nowhere, FROGS it comes to owe.", d -> {
            StorksLet s = Due.town("r505@0;b5;f0*9;f0*0");
            Due.frost(s, "09");
            d.is("0", s.moves(0, 0), 0);
            d.row("0", s, 0, 0);
            d.is("60", s.moves(0, 60), 30);
            d.row("60", s, 30, 270);
            d.is("no RENT", s.moves(1, 60), 30);
            d.row("no RENT", s, 30, 0);
            StorksLet t = debtor(1112);
            d.is("more than 9999", t.moves(0, 60), 0);
            d.row("more than 9999", t, 0, 540);
        });
        edges.edge(24, "NONE: others.", d -> {
            StorksLet s = Due.town("r505@0;b5;f0*9;f0*0");
            s.moves(0, 1);
            for (int n : Due.outside(0, 60)) {
                d.is("n " + n, s.moves(0, n), -1);
            }
            for (int family : Due.outside(0, 1)) {
                d.is("FAMILY " + family, s.moves(family, 1), -1);
            }
            d.row("the ROW stays", s, 0, 9);
        });
    }

    private static void income() {
        edges.edge(25, "FROGS that come to be owed to a LORD in the next n DAYS (0 .. 60); the ROW: to all LORDS (four "
            + "numbers).", d -> {
            StorksLet s = Due.town("r505@3;r404@0;b5;b5;f0*9;f0*8;f1*7");
            d.is("0", s.income(3, 0), 0);
            d.row("0", s, 0, 0, 0, 0);
            d.is("60", s.income(3, 60), 1020);
            d.row("60", s, 420, 0, 0, 1020);
            d.is("LORD 1", s.income(1, 60), 0);
            d.is("no FAMILIES", new StorksLet().income(0, 60), 0);
        });
        edges.edge(25, "NONE: others.", d -> {
            StorksLet s = debtor(1);
            s.income(1, 1);
            for (int n : Due.outside(0, 60)) {
                d.is("n " + n, s.income(1, n), -1);
            }
            for (int lord : Due.outside(0, 3)) {
                d.is("LORD " + lord, s.income(lord, 1), -1);
            }
            d.row("the ROW stays", s, 0, 9, 0, 0);
        });
    }

    private static void homeless() {
        edges.edge(26, "After how many DAYS (1 .. 60) a BIRD has first no NEST. -2: in none;", d -> {
            StorksLet s = Due.town("r505@0;b5;b6/99");
            s.day();
            int[] arrivals = {0, 1, 2, 60, 61, 99};
            int[] answers = {1, 1, 2, 60, -2, -2};
            for (int i = 0; i < arrivals.length; i++) {
                s.ring(1, 1, arrivals[i]);
                d.is("another comes in DAY " + arrivals[i], s.homeless(0), answers[i]);
            }
            d.row("no ROW of its own", s, 0, 0);
        });
        edges.edge(26, "-3: it has none now; NONE: none such.", d -> {
            StorksLet s = Due.town("r505@0;r404@0;r404@0;b5;b6/99");
            d.is("none now, but soon", s.homeless(0), -3);
            s.day();
            d.is("none at all", s.homeless(1), -3);
            for (int bird : Due.outside(0, 1)) {
                d.is("BIRD " + bird, s.homeless(bird), -1);
            }
        });
    }

    private static void bears() {
        edges.edge(27, "The thickest FROST (0 .. 9), the same in each DAY, with which each FAMILY lives somewhere n "
            + "DAYS (1 .. 60) on: it.", d -> {
            d.is("no FAMILIES: 9", new StorksLet().bears(1), 9);
            for (int strength = 1; strength <= 9; strength++) {
                StorksLet s = Due.town("r505@0;r404@0;b9;b" + strength + ";f0;f1");
                Due.frost(s, "99");
                d.is("STRENGTH " + strength, s.bears(1), strength - 1);
                d.is("60 DAYS on", s.bears(60), strength - 1);
            }
            StorksLet t = Due.town("r505@0;b5/59;f0");
            d.is("one that comes in DAY 59", t.bears(60), 4);
            d.is("59 DAYS on it is not there", t.bears(59), -2);
            d.is("all of eight", fullTown().bears(1), 4);
        });
        edges.edge(27, "-2: with none; NONE: another n.", d -> {
            StorksLet s = Due.town("r505@0;b5;b5;f0;f1");
            d.is("one ROOF for two", s.bears(1), -2);
            for (int n : Due.outside(1, 60)) {
                d.is("n " + n, s.bears(n), -1);
            }
        });
    }
}
