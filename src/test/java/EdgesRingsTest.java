import java.io.IOException;

/** The boundaries that promises 39 to 49 name. */
public final class EdgesRingsTest {
    private static Edges edges;

    public static void main(String[] args) throws IOException {
        edges = new Edges("EdgesRingsTest");
        seen();
        forget();
        strengths();
        latest();
        absent();
        chance();
        safest();
        keep();
        again();
        count();
        row();
        edges.finish(39, 49);
    }

    private static void seen() {
        edges.edge(39, "A BIRD was seen on a ROOF (NONE: on none) n DAYS (1 .. 60) on, from when it is asked for: how "
            + "many were told.", d -> {
            StorksLet s = Due.town("r505@0;b5/60");
            d.is("1 DAY", s.seen(0, StorksLet.NONE, 1), 1);
            d.is("60 DAYS", s.seen(0, -1, 60), 2);
            s.absent();
            d.row("so", s, 1);
            s.day();
            s.absent();
            d.row("60 DAYS on, from now", s, 0);
            s.undo();
            s.absent();
            d.row("so again", s, 1);
            Due.addTown(s, "r505@0;b5");
            d.is("it stays told when others come", s.count(9), 2);
            d.is("on the last ROOF", s.seen(1, 1, 1), 3);
        });
        edges.edge(39, "Refused: others, 10.", d -> {
            StorksLet s = Due.town("r505@0;r505@0;r505@0;b5;b5");
            for (int n : Due.outside(1, 60)) {
                d.is("n " + n, s.seen(0, 0, n), -1);
            }
            for (int n : Due.outside(-1, 2)) {
                d.is("ROOF " + n, s.seen(0, n, 1), -1);
            }
            for (int n : Due.outside(0, 1)) {
                d.is("BIRD " + n, s.seen(n, 0, 1), -1);
            }
            d.is("nothing was told", s.count(9), 0);
            for (int i = 1; i <= 10; i++) {
                d.is("told", s.seen(1, 2, 60), i);
            }
            d.is("an 11th", s.seen(1, 2, 60), -1);
            d.is("ten", s.count(9), 10);
        });
    }

    private static void forget() {
        edges.edge(40, "What was told is forgotten: how much there was.", d -> {
            StorksLet s = Due.town("r505@0;b5");
            d.is("nothing", s.forget(), 0);
            for (int i = 0; i < 12; i++) {
                s.seen(0, -1, 1);
            }
            d.is("none of them is so", s.strengths(0), 0);
            d.is("ten", s.forget(), 10);
            d.is("nothing", s.forget(), 0);
            d.is("all is so", s.strengths(0), 1022);
            d.is("there is room again", s.seen(0, 0, 1), 1);
            StorksLet t = Due.town("r505@0;b5;b6/99;b5/99");
            t.seen(1, -1, 60);
            t.seen(2, -1, 60);
            t.forget();
            t.seen(0, 0, 1);
            t.absent();
            d.row("another BIRD in another number of DAYS", t, 1);
            t.seen(0, -1, 1);
            t.absent();
            d.row("both can't be", t, 0);
        });
        edges.edge(41, "all that was seen would be so", d -> {
            StorksLet s = Due.town("r505@0;b5/9");
            s.seen(0, -1, 12);
            s.seen(0, -1, 3);
            d.is("the one told first comes last", s.strengths(0), 0);
            d.is("the latest ARRIVAL", s.latest(0), 99);
            d.is("only without it", s.absent(), 1);
            d.row("not as it is", s, 0);
        });
    }

    private static void strengths() {
        edges.edge(41, "STRENGTHS (bits 1 .. 9) of a BIRD, all else as it is, by which all that was seen would be so.", d -> {
            StorksLet s = Due.town("r505@0;b5;b1");
            d.is("nothing was seen", s.strengths(0), 1022);
            s.day();
            s.seen(1, 0, 1);
            int[] bits = {-1, 1020, 1016, 1008, 992, 960, 896, 768, 512, 0};
            for (int strength = 1; strength <= 9; strength++) {
                s.ring(0, 0, strength);
                d.is("against " + strength, s.strengths(1), bits[strength]);
            }
            d.is("its STRENGTH stays", s.bird(1, 0), 1);
            StorksLet t = Due.town(Edges.SIX_ROOFS, Edges.SIX_BIRDS);
            t.seen(5, 5, 60);
            d.is("the sixth: any but more than the others", t.strengths(5), 62);
        });
        edges.edge(41, "NONE: none such.", d -> {
            StorksLet s = Due.town("r505@0;r505@0;r505@0;b5;b5");
            for (int n : Due.outside(0, 1)) {
                d.is("BIRD " + n, s.strengths(n), -1);
            }
            d.is("no ROW of its own", s.count(10), 0);
        });
    }

    private static void latest() {
        edges.edge(42, "The latest ARRIVAL (0 .. 99) of a BIRD by which all that was seen would be so, all else as it "
            + "is.", d -> {
            StorksLet s = Due.town("r505@0;b5/50");
            d.is("nothing was seen", s.latest(0), 99);
            s.seen(0, 0, 60);
            d.is("60 DAYS on: DAY 59 goes by", s.latest(0), 59);
            s.days(40);
            d.is("from DAY 40: DAY 99", s.latest(0), 99);
            s.seen(0, -1, 58);
            d.is("not in DAY 97", s.latest(0), 99);
            s.seen(0, -1, 59);
            s.day();
            d.is("from DAY 41: DAY 99 is one too early", s.latest(0), -2);
            s.forget();
            s.seen(0, 0, 1);
            d.is("in this DAY", s.latest(0), 41);
            s.days(59);
            d.is("behind DAY 99 any is there", s.latest(0), 99);
            s.forget();
            s.seen(0, -1, 1);
            d.is("and none is away", s.latest(0), -2);
            StorksLet late = Due.town("r505@0;b5/50");
            late.days(30);
            late.seen(0, -1, 1);
            d.is("asked for the first time in DAY 30", late.latest(0), 99);
            StorksLet t = Due.town("r505@0;b5/50");
            t.seen(0, 0, 1);
            d.is("0", t.latest(0), 0);
            d.is("its ARRIVAL stays", t.bird(0, 1), 50);
        });
        edges.edge(42, "-2: none; NONE: none such.", d -> {
            StorksLet s = Due.town("r505@0;r505@0;r505@0;b5;b5");
            s.seen(0, 0, 1);
            s.seen(0, 1, 1);
            d.is("on two ROOFS", s.latest(0), -2);
            d.is("another can't change it", s.latest(1), -2);
            for (int n : Due.outside(0, 1)) {
                d.is("BIRD " + n, s.latest(n), -1);
            }
            d.is("no ROW of its own", s.count(10), 0);
        });
    }

    private static void absent() {
        edges.edge(43, "BIRDS (bits) each of whom alone, never coming (leaving its NEST now), makes all that was seen "
            + "so; the ROW: 1 if it is so as it is, else 0.", d -> {
            StorksLet s = Due.town(Edges.SIX_ROOFS, Edges.SIX_BIRDS);
            d.is("nothing was seen: each", s.absent(), 63);
            d.row("so as it is", s, 1);
            s.day();
            s.seen(5, 4, 1);
            d.is("it comes up if one of the five is away", s.absent(), 31);
            d.row("not as it is", s, 0);
            s.forget();
            s.seen(5, -1, 60);
            d.is("itself", s.absent(), 32);
            s.forget();
            s.seen(5, 5, 60);
            s.seen(0, 0, 60);
            d.is("none", s.absent(), 0);
            d.row("so as it is", s, 1);
            d.is("no BIRDS", new StorksLet().absent(), 0);
            d.is("more ROOFS than BIRDS", Due.town("r505@0;r505@0;r505@0;b5").absent(), 1);
            d.is("fewer", Due.town("r505@0;b5;b5;b5").absent(), 7);
            d.nests("all stay", s, 0, 1, 2, 3, 4, 5);
        });
    }

    private static void chance() {
        edges.edge(44, "n DAYS (0 .. 30) on, if each BIRD by t tenths (0 .. 10) never comes (and leaves its NEST now): "
            + "0; the ROW: the fraction.", d -> {
            StorksLet s = Due.town("r505@0;b5/29");
            d.is("now", s.chance(0, 0, 0), 0);
            d.row("now", s, 0, 1);
            s.chance(0, 29, 0);
            d.row("29", s, 0, 1);
            s.chance(0, 30, 0);
            d.row("30", s, 1, 1);
            s.chance(0, 30, 10);
            d.row("never", s, 0, 1);
            s.days(30);
            s.chance(0, 0, 4);
            d.row("leaves now", s, 3, 5);
            StorksLet t = Due.town(Edges.SIX_ROOFS, Edges.SIX_BIRDS);
            t.chance(5, 1, 1);
            d.row("all six must come", t, 531441, 1000000);
            t.chance(5, 1, 9);
            d.row("one in a million", t, 1, 1000000);
            t.chance(0, 1, 9);
            d.row("any of six", t, 468559, 1000000);
            d.is("no BIRDS", Due.town("r505@0").chance(0, 30, 0), 0);
        });
        edges.edge(44, "NONE: others.", d -> {
            StorksLet s = Due.town("r505@0;r505@0;b5;b5;b5");
            s.rests();
            for (int n : Due.outside(0, 30)) {
                d.is("n " + n, s.chance(0, n, 1), -1);
            }
            for (int t : Due.outside(0, 10)) {
                d.is("t " + t, s.chance(0, 1, t), -1);
            }
            for (int roof : Due.outside(0, 1)) {
                d.is("ROOF " + roof, s.chance(roof, 1, 1), -1);
            }
            d.row("the ROW stays", s, 7);
        });
    }

    private static void safest() {
        edges.edge(45, "The FAMILY whose BIRD so most likely has a NEST then; of equal ones the first: it; the ROW: "
            + "the fraction.", d -> {
            StorksLet s = Due.town(Edges.SIX_ROOFS, "b4;b4;b4;b4;b4;b5", "f1;f1;f2;f3;f4;f4;f5;f5");
            s.ring(0, 1, 99);
            s.build(5, 0, 0);
            s.build(5, 2, 0);
            d.is("0 DAYS: the first", s.safest(0, 5), 0);
            d.row("0 DAYS", s, 0, 1);
            d.is("five for five ROOFS: the first", s.safest(2, 9), 0);
            d.row("one in ten", s, 1, 10);
            s.build(4, 0, 0);
            s.build(4, 2, 0);
            d.is("for four ROOFS: BIRD 1 is left over, if all are there", s.safest(30, 1), 2);
            s.ring(1, 0, 3);
            s.ring(2, 0, 3);
            s.ring(3, 0, 3);
            d.is("the first of two strong ones", s.safest(2, 9), 4);
            d.row("one in ten", s, 1, 10);
            StorksLet t = Due.town("r505@0;b9;b1;f1");
            d.is("the only FAMILY, of the weaker BIRD", t.safest(2, 4), 0);
            d.row("the other must be away", t, 6, 25);
            t.safest(2, 10);
            d.row("all are away", t, 0, 1);
        });
        edges.edge(45, "-2: no FAMILIES; NONE: others.", d -> {
            StorksLet s = Due.town("r505@0;b5;b5;b5");
            s.rests();
            d.is("no FAMILIES", s.safest(1, 1), -2);
            for (int n : Due.outside(0, 30)) {
                d.is("n " + n, s.safest(n, 1), -1);
            }
            for (int t : Due.outside(0, 10)) {
                d.is("t " + t, s.safest(1, t), -1);
            }
            d.row("the ROW stays", s, 7);
        });
    }

    private static void keep() {
        edges.edge(46, "are kept under a number 0 .. 1: true. Refused: others.", d -> {
            StorksLet s = new StorksLet();
            d.is("0", s.keep(0), true);
            d.is("1 is not kept by that", s.again(1), false);
            d.is("1", s.keep(1), true);
            for (int i : Due.outside(0, 1)) {
                d.is("keep " + i, s.keep(i), false);
                d.is("again " + i, s.again(i), false);
            }
        });
        edges.edge(46, "DAY, NESTS, where FAMILIES live, MOVES, FROGS", d -> {
            StorksLet s = Due.town(Edges.SIX_ROOFS, Edges.SIX_BIRDS, "f0;f1;f2;f3;f4;f5;f0;f5*9");
            s.day();
            s.keep(1);
            Due.frost(s, "9");
            s.days(9);
            s.keep(0);
            Due.spring(s, "w0;s19;f0>1");
            d.is("again", s.again(1), true);
            d.is("DAY", s.count(3), 1);
            d.is("BIRDS with a NEST", s.count(4), 63);
            d.is("FAMILIES that live", s.count(5), 255);
            d.is("MOVES", s.count(6), 8);
            d.is("FROGS", s.count(7), 16);
            d.is("the eighth owes", s.owes(7, 1), 9);
            d.is("a WHEEL stays", s.roof(0, 3), 1);
            d.is("SMOKE stays", s.roof(1, 1), 9);
            d.is("to whom it belongs stays", s.family(0, 0), 1);
            d.is("the other", s.again(0), true);
            d.is("DAY", s.count(3), 10);
            d.is("no NESTS", s.count(4), 0);
            d.is("no NEST on ROOF 0", s.roof(0, 5), -1);
            d.is("MOVES", s.count(6), 8);
        });
    }

    private static void again() {
        edges.edge(47, "Refused: nothing kept, ROOFS, BIRDS or FAMILIES came since.", d -> {
            StorksLet empty = new StorksLet();
            d.is("a new object", empty.again(0), false);
            d.is("a new object", empty.again(1), false);
            d.is("a town of nothing is kept, too", empty.keep(0), true);
            d.is("again", empty.again(0), true);
            StorksLet full = Due.town("r505@0;r505@0;r505@0;r505@0", "b5;b5;b5;b5", "f0;f0;f0;f0");
            for (String line : new String[] {"r505@0", "b5", "f0", "r505@0;b5", "f0;f0"}) {
                full.keep(0);
                Due.addTown(full, line);
                d.is("came since: " + line, full.again(0), false);
            }
            full.keep(1);
            Due.addTown(full, "q");
            Due.addTown(full, "");
            d.is("a refused and an empty town", full.again(1), true);
            StorksLet t = Due.town("b5;b5;b5;b5");
            t.keep(0);
            Due.addTown(t, "r505@0");
            t.keep(1);
            Due.addTown(t, "b5");
            d.is("the other number", t.again(1), false);
            d.is("kept long ago", t.again(0), false);
        });
        edges.edge(47, "They are as they were kept under a number.", d -> {
            StorksLet s = Due.town("r505@0;b5");
            s.keep(0);
            s.day();
            for (int i = 0; i < 3; i++) {
                s.day();
                d.is("as often as one likes", s.again(0), true);
                d.is("DAY", s.count(3), 0);
            }
        });
    }

    private static void count() {
        edges.edge(48, "4: BIRDS with a NEST (bits), 5: FAMILIES that live somewhere (bits)", d -> {
            StorksLet s = Due.town("r505@0;r505@0;r505@0;b5;f0");
            d.is("none", s.count(4), 0);
            s.day();
            d.is("more ROOFS than BIRDS", s.count(4), 1);
            StorksLet t = Due.town("r505@0;b5;b5;b6;f0;f2");
            t.day();
            d.is("fewer", t.count(4), 4);
            d.is("FAMILIES", t.count(5), 2);
        });
        edges.edge(48, "NONE for another what.", d -> {
            StorksLet s = Due.town("b5");
            for (int what : Due.outside(0, 11)) {
                d.is("what " + what, s.count(what), -1);
            }
        });
        edges.edge(48, "4: BIRDS with a NEST (bits), 5: FAMILIES that live somewhere (bits), 6: MOVES of all, 7: FROGS all owe, "
            + "8: what can be undone, 9: what was seen, 10: numbers of the ROW, 11: signs of THE TEXT.", d -> {
                StorksLet s = Due.town(Edges.SIX_ROOFS, Edges.SIX_BIRDS, "f0;f1;f2;f3;f4;f5;f0;f5*9");
                s.days(2);
                s.seen(5, -1, 60);
                Due.tell(s, "1".repeat(80));
                int[] want = {6, 6, 8, 2, 63, 255, 8, 32, 1, 1, 2, 80};
                for (int what = 0; what <= 11; what++) {
                    d.is("what " + what, s.count(what), want[what]);
                }
                s.end(0);
                for (int n = 0; n < 6; n++) {
                    s.undo();
                    s.day();
                    s.ring(n, 1, 99);
                    Due.spring(s, "x" + n + ";d");
                    d.is("without BIRD " + n, s.count(4), 63 & ~((2 << n) - 1));
                    s.days(1);
                }
            });
    }

    private static void row() {
        edges.edge(49, "NoSuchElementException: none such.", d -> {
            StorksLet s = Due.town(Edges.SIX_ROOFS, Edges.SIX_BIRDS);
            d.noSuch("none told", () -> s.row(0));
            s.later(0, 1);
            d.is("the last of six", s.row(5), 5);
            for (int i : Due.outside(0, 5)) {
                d.noSuch("number " + i, () -> s.row(i));
            }
            s.rests();
            d.noSuch("what was told ahead", () -> s.row(1));
            StorksLet t = new StorksLet();
            t.day();
            t.later(0, 1);
            d.is("two stay", t.count(10), 2);
            t.calm();
            d.noSuch("a ROW without numbers", () -> t.row(0));
        });
    }
}
