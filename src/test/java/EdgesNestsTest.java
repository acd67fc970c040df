import java.io.IOException;

/** The boundaries that promises 36 to 38 name. */
public final class EdgesNestsTest {
    private static Edges edges;

    public static void main(String[] args) throws IOException {
        edges = new Edges("EdgesNestsTest");
        aim();
        aimEmpty();
        fewest();
        fewestWithoutAim();
        gentlyAllowed();
        gentlyTenMoves();
        gentlyEnd();
        edges.finish(36, 38);
    }

    private static StorksLet town(String birds) {
        StorksLet s = Due.town(Edges.SIX_ROOFS, birds);
        s.day();
        return s;
    }

    private static void aim() {
        edges.edge(36, "for each BIRD a digit (a ROOF) or - (none), no ROOF twice: how many.", d -> {
            StorksLet s = town(Edges.SIX_BIRDS);
            for (String text : new String[] {"012345", "543210", "------", "5-----", "-----5"}) {
                d.is(text, Due.aim(s, text), 6);
            }
            d.is("the last one told", s.fewest(), 5);
            d.is("none twice is no ROOF twice", Due.aim(Due.town("b1;b1"), "--"), 2);
        });
        edges.edge(36, "-1 - p: the sign at p can't stand there (its end, if there are more BIRDS; a ROOF that is not "
            + "there or was told; a sign more: at it).", d -> {
            StorksLet s = Due.town("r505@0;r505@0;b5;b5;b5");
            Due.aim(s, "0--");
            String[] texts = {"0", "01", "-", "--", "2--", "02-", "9--", "-12", "00-", "-11", "1-1", "01-0", "----", "---x", "x--", "0x-",
                "/--", ":--", "---" + "-".repeat(77)};
            int[] places = {1, 2, 1, 2, 0, 1, 0, 2, 1, 2, 2, 3, 3, 3, 0, 1, 0, 0, 3};
            for (int i = 0; i < texts.length; i++) {
                d.is(texts[i], Due.aim(s, texts[i]), -1 - places[i]);
                d.is("THE TEXT is empty", s.count(11), 0);
            }
            d.is("THE AIM stays", s.fewest(), 1);
            d.row("THE AIM stays", s, 0);
            StorksLet t = Due.town("b5");
            d.is("no ROOFS", Due.aim(t, "0"), -1);
            d.is("none", Due.aim(t, "-"), 1);
        });
    }

    private static void aimEmpty() {
        edges.edge(36, "An empty text, if there are BIRDS: no AIM: 0.", d -> {
            StorksLet s = town("b5;b5");
            Due.aim(s, "10");
            d.is("an AIM", s.fewest(), 3);
            d.is("no AIM", Due.aim(s, ""), 0);
            d.is("fewest", s.fewest(), -4);
            d.is("gently", s.gently(), -4);
            StorksLet t = Due.town("r505@0");
            d.is("none yet", t.fewest(), -4);
            d.is("no BIRDS: an AIM of none", Due.aim(t, ""), 0);
            d.is("fewest", t.fewest(), 0);
            d.is("gently", t.gently(), 0);
            d.row("no MOVES", t);
            d.is("no BIRDS, a sign", Due.aim(t, "0"), -1);
            d.is("the AIM stays", t.fewest(), 0);
        });
    }

    private static void fewest() {
        edges.edge(37, "10 times the BIRD, and the ROOF (9: off), of each (the first 10): of as few the least row.", d -> {
            StorksLet s = town(Edges.SIX_BIRDS);
            Due.aim(s, "012345");
            d.is("it is so", s.fewest(), 0);
            d.row("no MOVES", s);
            Due.aim(s, "-----5");
            d.is("five off", s.fewest(), 5);
            d.row("by numbers", s, 9, 19, 29, 39, 49);
            Due.aim(s, "103254");
            d.is("the most there can be: 9", s.fewest(), 9);
            d.row("the most there can be", s, 9, 10, 1, 29, 32, 23, 49, 54, 45);
            StorksLet t = town("b5;b5");
            Due.aim(t, "10");
            d.is("a free ROOF is less than 9", t.fewest(), 3);
            d.row("the first BIRD to the first free ROOF", t, 2, 10, 1);
            Due.aim(t, "-0");
            d.is("off first", t.fewest(), 2);
            d.row("off first", t, 9, 10);
            StorksLet u = Due.town("r901@0;b5/99;b5;b5");
            u.day();
            Due.aim(u, "0--");
            StorksLet v = town("b5;b5;b5;b5;b5");
            Due.aim(v, "04325");
            d.is("a ring, and two that wait", v.fewest(), 5);
            d.row("the ring is broken by the ROOF that another wants", v, 25, 32, 23, 45, 14);
            d.is("the ROOF must be left ahead", u.fewest(), 2);
            d.row("the ROOF must be left ahead", u, 19, 0);
        });
        edges.edge(Edges.TERMS, "nest by nest (a MOVE: a BIRD goes to a ROOF without a NEST, or off its NEST)", d -> {
            StorksLet s = town("b9;b1");
            Due.rule(s, "0");
            Due.aim(s, "1-");
            d.is("the strong one drives nobody off; WORTH does not matter", s.fewest(), 2);
            d.row("first the other goes off", s, 19, 1);
        });
    }

    private static void fewestWithoutAim() {
        edges.edge(37, "-4: no AIM (or ROOFS, BIRDS came since).", d -> {
            StorksLet s = new StorksLet();
            d.is("no AIM", s.fewest(), -4);
            Due.aim(s, "");
            d.is("one for no BIRDS", s.fewest(), 0);
            Due.addTown(s, "r505@0");
            d.is("a ROOF came", s.fewest(), -4);
            Due.aim(s, "");
            Due.addTown(s, "b5");
            d.is("a BIRD came", s.fewest(), -4);
            Due.aim(s, "0");
            s.rests();
            Due.addTown(s, "f0");
            Due.addTown(s, "");
            Due.addTown(s, "q");
            d.is("a FAMILY is no matter", s.fewest(), 1);
            d.row("a FAMILY is no matter", s, 0);
            Due.addTown(s, "r505@0");
            d.is("a ROOF came", s.fewest(), -4);
            d.row("the ROW stays", s, 0);
        });
        edges.edge(38, "-2: it can't be; -4;", d -> {
            StorksLet s = Due.town("r505@0;b5");
            d.is("no AIM", s.gently(), -4);
            Due.aim(s, "0");
            d.is("one MOVE", s.gently(), 1);
            d.row("one MOVE", s, 0);
            Due.addTown(s, "b5");
            d.is("a BIRD came", s.gently(), -4);
            d.row("the ROW stays", s, 0);
            Due.aim(s, "0-");
            s.day();
            Due.aim(s, "-0");
            d.is("none can leave", s.gently(), -2);
            d.row("the ROW stays", s, 0, 0);
        });
    }

    private static void gentlyAllowed() {
        edges.edge(38, "but a BIRD may go to a ROOF alone that has more WORTH for it than 0, and never off its NEST", d -> {
            StorksLet s = Due.town("r100@0;r100@0;b5");
            s.day();
            Due.aim(s, "1");
            d.is("1 is more than 0", s.gently(), 1);
            d.row("1 is more than 0", s, 1);
            s.build(1, 1, 1);
            d.is("0 is not", s.gently(), -2);
            s.build(1, 1, 0);
            s.build(0, 1, 9);
            d.is("it may leave a bad one", s.gently(), 1);
            Due.aim(s, "0");
            d.is("and stay on it", s.gently(), 0);
            d.row("no MOVES", s);
            Due.aim(s, "-");
            d.is("never off", s.gently(), -2);
            d.is("fewest may", s.fewest(), 1);
        });
        edges.edge(38, "a BIRD may go to a ROOF alone that has more WORTH for it than 0", d -> {
            StorksLet s = Due.town("r505@0;r505@0;r505@0;b5");
            s.day();
            Due.aim(s, "2");
            Due.rule(s, "o");
            d.is("elsewhere o is 0", s.gently(), -2);
            Due.rule(s, "1-o");
            d.is("elsewhere it is 1", s.gently(), 1);
            Due.addTown(s, "r505@0;b5;b5;b5;b5");
            Due.aim(s, "30---");
            Due.rule(s, "i<2");
            d.is("more ROOFS and BIRDS than ahead", s.gently(), 2);
            d.row("more ROOFS and BIRDS than ahead", s, 3, 10);
            StorksLet grown = Due.town("r505@0;b5");
            Due.aim(grown, "0");
            d.is("one BIRD", grown.gently(), 1);
            Due.addTown(grown, "r505@0;b5");
            Due.aim(grown, "10");
            d.is("two BIRDS", grown.gently(), 2);
            d.row("two BIRDS", grown, 1, 10);
            StorksLet t = Due.town("r505@0;b5/99;b5/99;b5/99");
            Due.aim(t, "--0");
            Due.rule(t, "i=2");
            d.is("the last of three BIRDS to the only ROOF", t.gently(), 1);
            d.row("the last of three BIRDS to the only ROOF", t, 20);
            Due.aim(t, "-0-");
            d.is("the others do not want it", t.gently(), -2);
        });
        edges.edge(38, "how many; the ROW likewise.", d -> {
            StorksLet s = town("b5;b5");
            Due.aim(s, "10");
            d.is("three", s.gently(), 3);
            d.row("the least row", s, 2, 10, 1);
            Due.rule(s, "h>5");
            s.build(2, 0, 0);
            d.is("three", s.gently(), 3);
            d.row("the first that is allowed", s, 3, 10, 1);
            Due.rule(s, "(h>5)-(i=0)*(r>1)");
            d.is("the other makes room", s.gently(), 3);
            d.row("the other makes room", s, 13, 1, 10);
        });
    }

    private static void gentlyTenMoves() {
        edges.edge(38, "rising as it is told", d -> {
            // HEIGHT and SMOKE tell which BIRDS want the ROOF: two change ROOFS by moving all others along and back.
            StorksLet s = Due.town("r010@0;r090@0;r120@0;r230@0;r340@0;r450@0", "b5;b5;b5;b5;b5;b5/99");
            Due.rule(s, "r=i");
            s.day();
            d.nests("one behind the other", s, 0, 1, 2, 3, 4, -1);
            Due.rule(s, "(h=i)+(s=i)");
            Due.aim(s, "102345");
            d.is("ten MOVES", s.gently(), 10);
            d.row("ten MOVES", s, 45, 34, 23, 12, 1, 10, 22, 33, 44, 55);
            Due.aim(s, "10234-");
            d.is("nine MOVES", s.gently(), 9);
            d.row("nine MOVES", s, 45, 34, 23, 12, 1, 10, 22, 33, 44);
        });
    }

    private static void gentlyEnd() {
        edges.edge(38, "-3: NESTS are found from these on one by one, each once, by each such MOVE, rising as it is told, "
            + "and of the first 3000 none is THE AIM, and there are more.", d -> {
                StorksLet s = town("b5;b5;b5;b5;b5");
                Due.rule(s, "1");
                Due.aim(s, "-0324");
                d.is("BIRDS never go off: not among 720", s.gently(), -2);
                StorksLet t = Due.town(Edges.SIX_ROOFS, "b5;b5;b5;b5;b5");
                Due.rule(t, "1");
                Due.aim(t, "-0324");
                d.is("the 3000th, the first being these", t.gently(), 4);
                d.row("the 3000th", t, 10, 23, 32, 44);
                Due.aim(t, "-0325");
                d.is("the 3001st", t.gently(), -3);
                d.row("the ROW stays", t, 10, 23, 32, 44);
                // 1 + 5 * 6 + 10 * 30 + 10 * 120 + 5 * 360 + 720: more than 3000, of five ROOFS 1546.
                Due.rule(t, "r<5");
                Due.aim(t, "----5");
                d.is("none wants that ROOF, and there are no more", t.gently(), -2);
                Due.rule(t, "1");
                Due.aim(t, "54321");
                d.is("too far", t.gently(), -3);
                Due.aim(t, "-----");
                d.is("these are the first", t.gently(), 0);
                d.row("these are the first", t);
            });
    }
}
